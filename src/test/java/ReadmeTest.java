import java.lang.reflect.InvocationTargetException;
import java.lang.reflect.Method;
import java.nio.file.Files;
import java.nio.file.Path;
import java.util.List;
import java.util.regex.Matcher;
import java.util.regex.Pattern;

/** Makes the calls of the example in README.md; each answers what stands behind it there. */
public final class ReadmeTest {
    private static final Pattern CALL = Pattern.compile("engine\\.(\\w+)\\(([-\\w, ]*)\\); +// (\"[^\"]*\"|[-\\w]+)(?::.*)?");
    private static int wrong = 0;
    private static int asked = 0;

    public static void main(String[] args) throws Exception {
        List<String> lines = Files.readAllLines(Path.of("README.md"));
        int at = lines.indexOf("```java") + 1;
        due("Ruleengine engine = new Ruleengine();", lines.get(at));
        Ruleengine engine = new Ruleengine();
        for (at++; !lines.get(at).equals("```"); at++) {
            Matcher matcher = CALL.matcher(lines.get(at));
            if (!matcher.matches()) {
                due("a call with its answer", lines.get(at));
                continue;
            }
            due(lines.get(at) + " " + matcher.group(3),
                lines.get(at) + " " + answer(engine, matcher.group(1), matcher.group(2)));
        }
        due(true, asked > 10);
        due("README.md names each test", namesEachTest(lines) ? "README.md names each test" : "some are missing");
        System.out.println(asked + " asked, " + wrong + " wrong");
        if (wrong != 0) {
            System.exit(1);
        }
    }

    private static void due(Object due, Object got) {
        asked++;
        if (!due.equals(got)) {
            wrong++;
            System.out.println("answered " + got + ", due is " + due);
        }
    }

    private static String answer(Ruleengine engine, String name, String list) throws Exception {
        String[] texts = list.isEmpty() ? new String[0] : list.split(", ");
        Object[] values = new Object[texts.length];
        for (int i = 0; i < texts.length; i++) {
            boolean isTruth = texts[i].equals("true") || texts[i].equals("false");
            values[i] = isTruth ? (Object) Boolean.valueOf(texts[i]) : (Object) Integer.valueOf(texts[i]);
        }
        for (Method method : Ruleengine.class.getMethods()) {
            if (method.getName().equals(name)) {
                try {
                    Object got = method.invoke(engine, values);
                    return got instanceof String ? "\"" + got + "\"" : String.valueOf(got);
                } catch (InvocationTargetException e) {
                    return e.getCause().getClass().getSimpleName();
                }
            }
        }
        return "no such call";
    }

    private static boolean namesEachTest(List<String> lines) throws Exception {
        String all = String.join("\n", lines);
        try (var files = Files.newDirectoryStream(Path.of("src/test/java"), "*.java")) {
            for (Path file : files) {
                if (!all.contains("`" + file.getFileName().toString().replace(".java", "") + "`")) {
                    return false;
                }
            }
        }
        return true;
    }
}

import java.lang.reflect.Constructor;
import java.lang.reflect.Field;
import java.lang.reflect.Method;
import java.lang.reflect.Modifier;
import java.util.ArrayList;
import java.util.List;
import java.util.Set;
import java.util.TreeSet;

/** The public face: each signature with its "throws", and no other member that can be seen. */
public final class FaceTest {
    private static final String[] FACE = {
        "public int say(int, int, int, int, int, int) throws IllegalArgumentException, IllegalStateException",
        "public int rule(int, int, int) throws IndexOutOfBoundsException, IllegalArgumentException, "
            + "IllegalStateException",
        "public int drop(int) throws IndexOutOfBoundsException",
        "public int tell(int, int, int, int) throws IllegalArgumentException",
        "public int take(int) throws IndexOutOfBoundsException",
        "public int deny(int) throws IndexOutOfBoundsException, IllegalStateException",
        "public int window(int, int, int) throws IllegalArgumentException",
        "public int pass(int) throws IllegalArgumentException, IllegalStateException",
        "public int focus(int) throws IllegalArgumentException, IllegalStateException",
        "public int step()",
        "public int run(int, boolean) throws IllegalArgumentException",
        "public int undo() throws IllegalStateException",
        "public int knock()",
        "public String typed()",
        "public int fault()",
        "public boolean isFit()",
        "public String text(int) throws IndexOutOfBoundsException",
        "public int ofRule(int, int) throws IndexOutOfBoundsException, IllegalArgumentException",
        "public int partials(int, int) throws IndexOutOfBoundsException, IllegalArgumentException",
        "public int stuck(int) throws IndexOutOfBoundsException",
        "public String match(int) throws IllegalArgumentException",
        "public int layer(int) throws IllegalArgumentException",
        "public int find(int, int, int, int) throws IllegalArgumentException",
        "public int ofFact(int, int) throws IndexOutOfBoundsException, IllegalArgumentException",
        "public String facts(int) throws IllegalArgumentException",
        "public String why(int, int) throws IndexOutOfBoundsException, IllegalArgumentException",
        "public int could(int, int, int, int, int) throws IllegalArgumentException",
        "public String written()",
        "public int house(int) throws IllegalArgumentException",
        "public boolean isSound()",
        "public long digest()",
    };
    private static int wrong = 0;
    private static int asked = 0;

    public static void main(String[] args) {
        theClass();
        constructors();
        methods();
        othersAreHidden();
        System.out.println(asked + " asked, " + wrong + " wrong");
        if (wrong != 0) {
            System.exit(1);
        }
    }

    private static void due(Object due, Object got) {
        asked++;
        if (!due.equals(got)) {
            wrong++;
            System.out.println("answered " + got + ", due is " + due);
        }
    }

    private static void theClass() {
        due("public final", Modifier.toString(Ruleengine.class.getModifiers()));
        due("Ruleengine", Ruleengine.class.getName());
        due(Object.class, Ruleengine.class.getSuperclass());
        due(0, Ruleengine.class.getInterfaces().length);
        due(0, Ruleengine.class.getTypeParameters().length);
    }

    private static void constructors() {
        Constructor<?>[] all = Ruleengine.class.getDeclaredConstructors();
        due(1, all.length);
        due("public", Modifier.toString(all[0].getModifiers()));
        due(0, all[0].getParameterCount());
        due(0, all[0].getExceptionTypes().length);
    }

    private static String names(Class<?>[] types) {
        StringBuilder text = new StringBuilder();
        for (Class<?> type : types) {
            text.append(text.length() > 0 ? ", " : "").append(type.getSimpleName());
        }
        return text.toString();
    }

    private static void methods() {
        Set<String> got = new TreeSet<>();
        for (Method method : Ruleengine.class.getDeclaredMethods()) {
            if (!Modifier.isPrivate(method.getModifiers())) {
                String thrown = names(method.getExceptionTypes());
                got.add(Modifier.toString(method.getModifiers()) + " " + method.getReturnType().getSimpleName() + " "
                    + method.getName() + "(" + names(method.getParameterTypes()) + ")"
                    + (thrown.isEmpty() ? "" : " throws " + thrown));
            }
        }
        due(31, FACE.length);
        due(new TreeSet<>(List.of(FACE)), got);
    }

    /** What else there is, is private, but for the classes inside, which are static. */
    private static void othersAreHidden() {
        Set<String> names = new TreeSet<>();
        for (String line : FACE) {
            names.add(line.substring(line.lastIndexOf(' ', line.indexOf('(')) + 1, line.indexOf('(')));
        }
        due(31, names.size());
        for (Field field : Ruleengine.class.getDeclaredFields()) {
            due(field.getName() + " true", field.getName() + " " + Modifier.isPrivate(field.getModifiers()));
        }
        for (Class<?> inside : Ruleengine.class.getDeclaredClasses()) {
            int modifiers = inside.getModifiers();
            due(inside + " true", inside + " " + Modifier.isStatic(modifiers));
            due(inside + " false", inside + " " + (Modifier.isPublic(modifiers) || Modifier.isProtected(modifiers)));
        }
        List<Class<?>> all = new ArrayList<>(List.of(Ruleengine.class.getDeclaredClasses()));
        all.add(Ruleengine.class);
        for (Class<?> one : all) {
            for (Method method : one.getDeclaredMethods()) {
                if (Modifier.isPrivate(method.getModifiers())) {
                    due(one + " " + method.getName() + " false",
                        one + " " + method.getName() + " " + names.contains(method.getName()));
                }
            }
            for (Field field : one.getDeclaredFields()) {
                if (Modifier.isStatic(field.getModifiers()) && !field.isSynthetic()) {
                    due(field + " true", field + " " + Modifier.isFinal(field.getModifiers()));
                }
            }
        }
    }
}

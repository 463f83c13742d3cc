import java.lang.management.ManagementFactory;
import java.util.Arrays;

/** As many calls as an object is used for, 512, each of them answered as due, and in little room. */
public final class LongRunsTest {
    private static final String SIGNS = "0123456789ABCDEFuvwxyz_!?*#+=/<,>.-$%@";
    private static final int NONE = -1;
    private static final int CALLS = 512;
    private static final long ROOM = 16_000_000;
    private static int wrong = 0;
    private static int asked = 0;
    private static String part = "";
    private static Ruleengine engine;
    private static int calls;

    public static void main(String[] args) {
        knocks();
        signs();
        facts();
        rules();
        changesAndBack();
        ring();
        manyDone();
        minutes();
        longest();
        System.out.println(asked + " asked, " + wrong + " wrong");
        if (wrong != 0) {
            System.exit(1);
        }
    }

    private static void due(Object due, Object got) {
        asked++;
        calls++;
        if (!due.equals(got)) {
            wrong++;
            if (wrong <= 20) {
                System.out.println(part + ", call " + calls + ": answered " + got + ", due is " + due);
            }
        }
    }

    private static void begin(String name) {
        part = name;
        engine = new Ruleengine();
        calls = 0;
    }

    private static boolean isLeft(int count) {
        return calls + count <= CALLS;
    }

    private static void end() {
        if (calls != CALLS) {
            wrong++;
            System.out.println(part + ": " + calls + " calls were made");
        }
    }

    /** Types it with as few calls as can be. */
    private static void type(String text) {
        int[] codes = new int[(text.length() + 6) / 6 * 6];
        Arrays.fill(codes, NONE);
        codes[0] = 38;
        for (int i = 0; i < text.length(); i++) {
            codes[i + 1] = SIGNS.indexOf(text.charAt(i));
        }
        for (int i = 0; i < codes.length; i += 6) {
            due(Math.min(text.length(), i + 5),
                engine.say(codes[i], codes[i + 1], codes[i + 2], codes[i + 3], codes[i + 4], codes[i + 5]));
        }
    }

    private static void knocks() {
        begin("knock");
        for (int i = 1; i <= CALLS; i++) {
            due(i, engine.knock());
        }
        end();
    }

    private static void signs() {
        begin("say");
        for (int i = 0; i < 10; i++) {
            due(6 * i + 6, engine.say(10, 1, 31, 10, 1, 31));
        }
        while (isLeft(2)) {
            due(60, engine.say(39, 39, 39, 1, 1, 31));
            due(58, engine.fault());
        }
        end();
    }

    private static void facts() {
        begin("tell, take");
        for (int i = 0; isLeft(2); i++) {
            due(i, engine.tell(i % 6, i / 6 % 10, 3, 3));
            due(1, engine.take(i));
        }
        end();
    }

    private static void rules() {
        begin("rule, drop");
        type("Au,Av,u<v>Eu");
        due(0, engine.tell(0, 1, 0, 0));
        due(1, engine.tell(0, 2, 0, 0));
        for (int slot = 0; isLeft(3); slot = (slot + 1) % 6) {
            due(1, engine.rule(slot, 0, 0));
            due(slot, engine.step());
            due(1, engine.drop(slot));
        }
        while (isLeft(1)) {
            due("A1 A2", engine.facts(NONE));
        }
        end();
    }

    private static void changesAndBack() {
        begin("changes and back");
        // Seven on, six back, again and again.
        int minute = 0;
        while (isLeft(14)) {
            for (int i = 0; i < 7; i++) {
                due(0, engine.pass(1));
            }
            for (int i = 5; i >= 0; i--) {
                due(i, engine.undo());
            }
            minute++;
        }
        while (isLeft(1)) {
            due(minute, engine.house(6));
        }
        end();
    }

    private static void ring() {
        begin("ring");
        type("!E1>E1");
        due(1, engine.rule(0, 0, 0));
        int runs = 0;
        while (isLeft(3)) {
            due(30, engine.run(30, false));
            runs++;
        }
        due(30 * runs, engine.house(11));
        due(30 * runs, engine.house(1));
        end();
    }

    private static void manyDone() {
        begin("many done");
        long before = allocated();
        engine = new Ruleengine();
        type("B__,B__,B__>$1");
        for (int slot = 0; slot < 6; slot++) {
            due(0, engine.rule(slot, 0, 0));
        }
        for (int i = 0; i < 16; i++) {
            due(i, engine.tell(1, i / 10, i % 10, 0));
        }
        due(6 * 4096, engine.house(2));
        int done = 0;
        while (isLeft(12)) {
            due(30, engine.run(30, done % 4 == 0));
            done += 30;
        }
        due(done, engine.house(3));
        due(true, engine.isSound());
        due(5, engine.undo());
        due(done - 30, engine.house(3));
        due(6 * 4096 - done + 30, engine.house(2));
        due(16 * 16 * 16, engine.partials(0, 3));
        due(true, engine.match(24575 - done).length() > 5);
        due("", engine.match(6 * 4096 - done + 30));
        due(1, engine.take(0));
        calls++;
        due(6 * 15 * 15 * 15, engine.house(2) + engine.house(3));
        end();
        due(true, allocated() - before < ROOM);
    }

    private static void minutes() {
        begin("minutes");
        due(0, engine.window(0, 99, 0));
        for (int i = 0; i < 101; i++) {
            due(2 * i, engine.tell(0, 1, 0, 0));
            due(2 * i + 1, engine.tell(0, 2, 0, 0));
            due(2, engine.pass(99));
        }
        due(9999, engine.house(6));
        while (isLeft(1)) {
            due(9999, engine.house(6));
        }
        end();
    }

    /** The longest answers and the checksum, made anew at each call. */
    private static void longest() {
        begin("the longest answers");
        long before = allocated();
        engine = new Ruleengine();
        String[] rules = {"A_,A_,A_>E1", "E_,E_,E_>F11", "F__,F__,F__>C11", "C__,C__,C__>D111"};
        for (int slot = 0; slot < rules.length; slot++) {
            type(rules[slot]);
            due(0, engine.rule(slot, 0, 0));
        }
        due(0, engine.tell(0, 1, 0, 0));
        due(4, engine.run(30, true));
        String why = "A1!";
        String[] put = {"E1", "F11", "C11", "D111"};
        for (int i = 0; i < 4; i++) {
            why = put[i] + "(" + i + " " + why + " " + why + " " + why + ")";
        }
        long digest = engine.digest();
        calls++;
        while (isLeft(2)) {
            due(why, engine.why(4, 4));
            due(digest, engine.digest());
        }
        while (isLeft(1)) {
            due(digest, engine.digest());
        }
        end();
        due(true, allocated() - before < ROOM);
    }

    /** How many bytes this thread has made room for; 0, if the machine does not tell. */
    private static long allocated() {
        if (ManagementFactory.getThreadMXBean() instanceof com.sun.management.ThreadMXBean bean
            && bean.isThreadAllocatedMemorySupported()) {
            return Math.max(0, bean.getThreadAllocatedBytes(Thread.currentThread().getId()));
        }
        return 0;
    }
}

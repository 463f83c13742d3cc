/** Promise by promise: ordinary inputs, the edges that the document names, wrong inputs; worked out by hand. */
public final class PromisesTest {
    private static final String SIGNS = "0123456789ABCDEFuvwxyz_!?*#+=/<,>.-$%@";
    private static final int NONE = -1;
    private static final int MANY = -5;
    private static int wrong = 0;
    private static int asked = 0;
    private static String part = "";

    interface Call {
        Object make();
    }

    public static void main(String[] args) {
        promise1();
        promise2();
        promise3();
        promise4();
        promise5();
        promise6();
        promise7();
        promise8();
        promise9();
        promise10();
        promise11();
        promise12();
        promise13();
        promise14();
        promise15();
        promise16();
        promise17();
        promise18();
        promise19();
        promise20();
        promise21();
        promise22();
        promise23();
        promise24();
        promise25();
        promise26();
        promise27();
        promise28();
        promise29();
        promise30();
        promise31();
        promise32();
        settling();
        acts();
        undoing();
        System.out.println(asked + " asked, " + wrong + " wrong");
        if (wrong != 0) {
            System.exit(1);
        }
    }

    private static void due(Object due, Object got) {
        asked++;
        if (!due.equals(got)) {
            wrong++;
            StackTraceElement[] trace = new Throwable().getStackTrace();
            System.out.println(part + ", line " + trace[1].getLineNumber() + ": answered " + got + ", due is " + due);
        }
    }

    /** A for IllegalArgumentException, S for IllegalStateException, I for IndexOutOfBoundsException. */
    private static void fails(char due, Call call) {
        asked++;
        String got;
        try {
            got = String.valueOf(call.make());
        } catch (RuntimeException e) {
            got = e.getClass().getSimpleName();
        }
        String name = due == 'A' ? "IllegalArgumentException"
            : due == 'S' ? "IllegalStateException" : "IndexOutOfBoundsException";
        if (!name.equals(got)) {
            wrong++;
            StackTraceElement[] trace = new Throwable().getStackTrace();
            System.out.println(part + ", line " + trace[1].getLineNumber() + ": answered " + got + ", due is " + name);
        }
    }

    private static void type(Ruleengine e, String text) {
        e.say(38, NONE, NONE, NONE, NONE, NONE);
        for (int i = 0; i < text.length(); i++) {
            e.say(SIGNS.indexOf(text.charAt(i)), NONE, NONE, NONE, NONE, NONE);
        }
    }

    private static int put(Ruleengine e, int slot, int urgency, int module, String text) {
        type(e, text);
        return e.rule(slot, urgency, module);
    }

    private static int put(Ruleengine e, int slot, String text) {
        return put(e, slot, 0, 0, text);
    }

    /** Tells facts as "A3 B07". */
    private static void tell(Ruleengine e, String facts) {
        for (String fact : facts.split(" ")) {
            int[] value = new int[3];
            for (int i = 1; i < fact.length(); i++) {
                value[i - 1] = fact.charAt(i) - '0';
            }
            e.tell(fact.charAt(0) - 'A', value[0], value[1], value[2]);
        }
    }

    private static Ruleengine with(String facts, String... rules) {
        Ruleengine e = new Ruleengine();
        for (int slot = 0; slot < rules.length; slot++) {
            put(e, slot, rules[slot]);
        }
        if (!facts.isEmpty()) {
            tell(e, facts);
        }
        return e;
    }

    private static void promise1() {
        part = "promise 1";
        Ruleengine e = new Ruleengine();
        int[] house = {0, 0, 0, 0, 1, 0, 0, 0, 0, 0, 0, 0, 0};
        for (int what = 0; what <= 12; what++) {
            due(house[what], e.house(what));
        }
        due("", e.facts(NONE));
        due("", e.typed());
        due("", e.written());
        due("", e.text(0));
        due("", e.match(0));
        due(0, e.fault());
        due(false, e.isFit());
        due(true, e.isSound());
        fails('S', e::undo);
        due(NONE, e.step());
        due(0, e.run(30, false));
        due(0, e.run(30, true));
    }

    private static void promise2() {
        part = "promise 2";
        Ruleengine e = new Ruleengine();
        due(0, e.say(NONE, NONE, NONE, NONE, NONE, NONE));
        due(0, e.say(39, 39, NONE, NONE, NONE, NONE));
        due(6, e.say(0, 9, 10, 15, 16, 37));
        due("09AFu@", e.typed());
        due(5, e.say(39, NONE, NONE, NONE, NONE, NONE));
        due(2, e.say(NONE, 38, 1, NONE, 2, NONE));
        due("12", e.typed());
        due(1, e.say(3, 38, 39, 4, NONE, NONE));
        for (int code = 0; code <= 37; code++) {
            e.say(38, code, NONE, NONE, NONE, NONE);
            due(SIGNS.substring(code, code + 1), e.typed());
        }
        e.say(38, 7, NONE, NONE, NONE, NONE);
        fails('A', () -> e.say(40, 1, 1, 1, 1, 1));
        fails('A', () -> e.say(1, -2, 1, 1, 1, 1));
        fails('A', () -> e.say(1, 1, 40, 1, 1, 1));
        fails('A', () -> e.say(1, 1, 1, -2, 1, 1));
        fails('A', () -> e.say(1, 1, 1, 1, 40, 1));
        fails('A', () -> e.say(1, 1, 1, 1, 1, 40));
        due("7", e.typed());
        due(0, e.house(10));
        for (int i = 0; i < 9; i++) {
            e.say(1, 2, 3, 4, 5, 6);
        }
        due(60, e.say(1, 2, 3, 4, 5, NONE));
        fails('S', () -> e.say(1, 39, NONE, NONE, NONE, NONE));
        fails('S', () -> e.say(39, 1, 2, NONE, NONE, NONE));
        fails('S', () -> e.say(1, 38, NONE, NONE, NONE, NONE));
        fails('A', () -> e.say(1, 40, NONE, NONE, NONE, NONE));
        due(60, e.house(9));
        due(60, e.say(39, 9, 39, 9, NONE, NONE));
        due(4, e.say(39, 38, 1, 2, 3, 4));
    }

    private static void promise3() {
        part = "promise 3";
        Ruleengine e = new Ruleengine();
        tell(e, "A1 A2 B12");
        due(2, put(e, 0, 9, 2, "Au>Eu"));
        due("Au>Eu", e.typed());
        due(9, e.ofRule(0, 0));
        due(2, e.ofRule(0, 1));
        due(1, put(e, 5, -9, 0, "Au,Buv>Ev"));
        due(2, e.house(7));
        fails('I', () -> e.rule(-1, 0, 0));
        fails('I', () -> e.rule(6, 10, 3));
        fails('A', () -> e.rule(1, 10, 0));
        fails('A', () -> e.rule(1, -10, 0));
        fails('A', () -> e.rule(0, 0, 3));
        fails('A', () -> e.rule(1, 0, -1));
        fails('S', () -> e.rule(0, 0, 0));
        type(e, "A1>B1");
        fails('S', () -> e.rule(5, 0, 0));
        int changes = e.house(10);
        due(-105, e.rule(1, 0, 0));
        type(e, "");
        due(-100, e.rule(1, 0, 0));
        due(-3, put(e, 1, "A1>Eu"));
        due("", e.text(1));
        due(changes, e.house(10));
        due(1, put(e, 1, "!E_>E1"));
        due(changes + 1, e.house(10));
    }

    private static void promise4() {
        part = "promise 4";
        Ruleengine e = with("A1 A2", "Au>Eu", "Eu>Cuu");
        due(4, e.run(30, false));
        due("A1 A2 E2 C22 E1 C11", e.facts(NONE));
        due(2, e.drop(1));
        due("", e.text(1));
        due(2, e.house(3));
        due(2, e.drop(0));
        due("A1 A2", e.facts(NONE));
        due(0, e.house(3));
        fails('I', () -> e.drop(0));
        fails('I', () -> e.drop(-1));
        fails('I', () -> e.drop(6));
        // Put in again, it is another rule: nothing of it is done.
        due(2, put(e, 0, "Au>Eu"));
        due(2, e.house(2));
        due("0:1", e.match(0));
        due(0, e.step());
        due(1, e.drop(0));
        due(0, e.house(2));
        due(4, put(e, 0, "Au,Av>Eu"));
        due(4, e.run(30, false));
        due(2, e.drop(0));
    }

    private static void promise5() {
        part = "promise 5";
        Ruleengine e = new Ruleengine();
        due(0, e.tell(3, 1, 2, 3));
        due(1, e.tell(0, 1, -7, 99));
        due(0, e.tell(3, 1, 2, 3));
        due(1, e.tell(0, 1, 0, 0));
        due(2, e.house(1));
        due(4, e.house(10));
        fails('A', () -> e.tell(-1, 0, 0, 0));
        fails('A', () -> e.tell(6, 0, 0, 0));
        fails('A', () -> e.tell(0, 10, 0, 0));
        fails('A', () -> e.tell(0, -1, 0, 0));
        fails('A', () -> e.tell(1, 0, 10, 0));
        fails('A', () -> e.tell(3, 0, 0, -1));
        due(2, e.tell(5, 9, 9, 10));
        Ruleengine f = new Ruleengine();
        for (int i = 0; i < 16; i++) {
            due(i, f.tell(1, i / 10, i % 10, 0));
        }
        due(3, f.tell(1, 0, 3, 0));
        f.undo();
        due(-4, f.tell(0, 1, 0, 0));
        due(5, f.house(10));
        due(16, f.house(1));
        f.take(4);
        due(16, f.tell(0, 1, 0, 0));
        due("B00 B01 B02 B03 B05", f.facts(1).substring(0, 19));
        Ruleengine g = with("A1", "A1>E1");
        g.run(1, false);
        due(0, g.ofFact(1, 5));
        due(1, g.tell(4, 1, 0, 0));
        due(1, g.ofFact(1, 5));
    }

    private static void promise6() {
        part = "promise 6";
        Ruleengine e = with("A1", "Au>Eu", "Eu>Cuu");
        e.run(30, false);
        due(1, e.take(2));
        due(1, e.ofRule(1, 7));
        due("A1 E1", e.facts(NONE));
        fails('I', () -> e.take(2));
        fails('I', () -> e.take(-1));
        fails('I', () -> e.take(3));
        due(2, e.take(0));
        due("", e.facts(NONE));
        due(0, e.house(3));
        due(3, e.tell(0, 1, 0, 0));
        due(1, e.take(3));
    }

    private static void promise7() {
        part = "promise 7";
        Ruleengine e = with("A1", "Au>Eu", "Eu>Cuu");
        e.run(30, false);
        fails('S', () -> e.deny(1));
        fails('I', () -> e.deny(7));
        fails('I', () -> e.deny(-1));
        e.tell(4, 1, 0, 0);
        due(0, e.deny(1));
        due("A1 E1 C11", e.facts(NONE));
        e.tell(4, 1, 0, 0);
        due(1, e.deny(0));
        due("E1 C11", e.facts(NONE));
        due(2, e.deny(1));
        due("", e.facts(NONE));
    }

    private static void promise8() {
        part = "promise 8";
        Ruleengine e = with("A1 A2 A3 A4", "Au>Eu");
        e.run(30, false);
        due(8, e.house(0));
        due(4, e.window(0, 0, 2));
        due("A3 A4 E4 E3", e.facts(NONE));
        e.tell(0, 5, 0, 0);
        due("A4 E4 A5", e.facts(NONE));
        e.window(0, 0, 0);
        e.pass(3);
        tell(e, "A6 A7");
        e.pass(1);
        due(0, e.window(0, 5, 0));
        due(3, e.window(0, 4, 0));
        due("A6 A7", e.facts(NONE));
        due(2, e.window(0, 1, 1));
        tell(e, "A8");
        due(0, e.window(0, 99, 16));
        fails('A', () -> e.window(-1, 0, 0));
        fails('A', () -> e.window(6, 0, 0));
        fails('A', () -> e.window(0, -1, 0));
        fails('A', () -> e.window(0, 100, 0));
        fails('A', () -> e.window(0, 0, -1));
        fails('A', () -> e.window(0, 0, 17));
        Ruleengine f = with("A1");
        due(0, f.window(3, 0, 0));
        due(2, f.house(10));
        Ruleengine g = with("A1 A2 A3");
        g.pass(5);
        g.tell(0, 4, 0, 0);
        due(3, g.window(0, 5, 2));
        due("A4", g.facts(0));
    }

    private static void promise9() {
        part = "promise 9";
        Ruleengine e = with("A1 B11", "Au>Eu");
        e.run(5, false);
        e.window(0, 3, 0);
        e.window(1, 4, 0);
        due(0, e.pass(2));
        due(2, e.house(6));
        due(2, e.pass(1));
        due("B11", e.facts(NONE));
        due(1, e.pass(1));
        fails('A', () -> e.pass(0));
        fails('A', () -> e.pass(100));
        fails('A', () -> e.pass(-5));
        Ruleengine f = new Ruleengine();
        for (int i = 0; i < 101; i++) {
            f.pass(99);
        }
        due(9999, f.house(6));
        fails('S', () -> f.pass(1));
        fails('A', () -> f.pass(0));
        due(true, f.isSound());
        due(9999, f.house(6));
        f.undo();
        fails('S', () -> {
            f.pass(90);
            return f.pass(10);
        });
        due(9990, f.house(6));
    }

    private static void promise10() {
        part = "promise 10";
        Ruleengine e = new Ruleengine();
        fails('S', () -> e.focus(0));
        fails('A', () -> e.focus(3));
        fails('A', () -> e.focus(-1));
        due(2, e.focus(1));
        fails('S', () -> e.focus(1));
        due(3, e.focus(0));
        due(4, e.focus(2));
        due(5, e.focus(1));
        due(1, e.house(5));
        fails('S', () -> e.focus(0));
        fails('A', () -> e.focus(9));
        due(5, e.house(4));
        due(4, e.house(10));
    }

    private static void promise11() {
        part = "promise 11";
        Ruleengine e = new Ruleengine();
        put(e, 0, 0, 0, "A1>E1");
        put(e, 1, 0, 1, "A1>E2");
        put(e, 2, 0, 2, "A2>E3");
        e.tell(0, 1, 0, 0);
        e.focus(1);
        e.focus(2);
        due(1, e.step());
        due("A1 E2", e.facts(NONE));
        due(2, e.house(4));
        due(1, e.house(5));
        due(0, e.step());
        due(1, e.house(4));
        int changes = e.house(10);
        e.undo();
        e.undo();
        e.take(0);
        due(NONE, e.step());
        due(3, e.house(4));
        due(changes - 1, e.house(10));
        Ruleengine f = new Ruleengine();
        put(f, 0, 1, 0, "Au>$u");
        put(f, 1, 2, 0, "A2,Bu_>$u");
        put(f, 2, 2, 0, "Eu>$u");
        tell(f, "A1 A2 B31 B41 E5 A6");
        due(2, f.step());
        due(1, f.step());
        due(1, f.step());
        due(0, f.step());
        due("5 4 3 6", f.written());
    }

    private static void promise12() {
        part = "promise 12";
        Ruleengine e = with("A1 A2 A3", "Au>Eu", "E2>%,$9");
        fails('A', () -> e.run(0, false));
        fails('A', () -> e.run(31, true));
        due(3, e.run(30, false));
        due("9", e.written());
        due(1, e.run(30, false));
        int changes = e.house(10);
        due(0, e.run(30, false));
        due(changes, e.house(10));
        Ruleengine f = with("A1 A2 A3 A4", "Au>Eu");
        due(3, f.run(3, false));
        due(1, f.house(2));
        Ruleengine g = new Ruleengine();
        put(g, 0, 0, 0, "A1>E1");
        put(g, 1, 0, 2, "A1>E2");
        g.tell(0, 1, 0, 0);
        g.focus(2);
        due(2, g.run(9, false));
        due(1, g.house(4));
        g.undo();
        due(2, g.house(4));
        Ruleengine ring = with("A1", "!E1>E1");
        due(-6, ring.run(30, true));
        fails('A', () -> ring.run(0, true));
        due(30, ring.run(30, false));
        due("A1", ring.facts(NONE));
        Ruleengine layers = new Ruleengine();
        put(layers, 0, 9, 2, "!Bu_>$2");
        put(layers, 1, -9, 1, "Au>Buu,$1");
        put(layers, 2, 5, 0, "#uB__>$3");
        tell(layers, "A4");
        due(2, layers.run(2, true));
        due("1 3", layers.written());
        due(0, layers.run(30, true));
        layers.take(layers.find(1, 4, 4, 0));
        due(2, layers.run(30, true));
        due("1 3 2 3", layers.written());
        due(1, layers.house(4));
    }

    private static void promise13() {
        part = "promise 13";
        Ruleengine e = new Ruleengine();
        fails('S', e::undo);
        for (int i = 0; i < 8; i++) {
            e.tell(0, i, 0, 0);
        }
        due(6, e.house(10));
        due(5, e.undo());
        due("A0 A1 A2 A3 A4 A5 A6", e.facts(0));
        due(7, e.house(1));
        due(7, e.tell(2, 5, 5, 0));
        for (int i = 5; i >= 0; i--) {
            due(i, e.undo());
        }
        due("A0 A1", e.facts(0));
        fails('S', e::undo);
        due(2, e.tell(0, 9, 0, 0));
        e.knock();
        e.say(1, 2, 3, NONE, NONE, NONE);
        due(0, e.undo());
        due(1, e.house(12));
        due("123", e.typed());
    }

    private static void undoing() {
        part = "undoing";
        Ruleengine e = with("A1 A2", "Au>Eu,$u,@1");
        e.window(4, 7, 0);
        long before = e.digest();
        due(2, e.run(2, false));
        due(2, e.house(11));
        due("2 1", e.written());
        e.undo();
        due("", e.written());
        due(0, e.house(11));
        due(0, e.house(3));
        due(2, e.house(2));
        due(1, e.house(4));
        due(2, e.house(1));
        due(before, e.digest());
        due(0, e.step());
        e.take(0);
        e.drop(0);
        due("A2", e.facts(NONE));
        e.undo();
        due("A2 E2", e.facts(NONE));
        due(1, e.ofFact(2, 6));
        e.undo();
        due("A1 A2 E2", e.facts(NONE));
        e.pass(7);
        due("A1 A2", e.facts(NONE));
        e.undo();
        due(0, e.house(6));
        e.deny(1);
        due("A1", e.facts(NONE));
        e.undo();
        due("E2(0 A2!)", e.why(2, 1));
        e.focus(2);
        e.undo();
        due(1, e.house(5));
        due(1, e.drop(0));
        due(0, e.house(7));
        e.undo();
        due("Au>Eu,$u,@1", e.text(0));
        due(1, e.ofRule(0, 7));
        due(true, e.isSound());
        // Windows, the minutes of facts, their numbers, what is written and the stack come back.
        Ruleengine f = with("A1 A2");
        f.pass(4);
        f.tell(0, 3, 0, 0);
        f.window(0, 50, 3);
        f.window(0, 4, 1);
        due("A3", f.facts(0));
        f.undo();
        due("A1 A2 A3", f.facts(0));
        due(4, f.ofFact(2, 4));
        due(0, f.pass(45));
        due(2, f.pass(1));
        f.undo();
        f.tell(0, 4, 0, 0);
        due("A2 A3 A4", f.facts(0));
        due(1, f.find(0, 2, 0, 0));
        f.undo();
        f.take(0);
        f.tell(4, 7, 0, 0);
        f.undo();
        f.undo();
        due(0, f.find(0, 1, 0, 0));
        due(0, f.ofFact(0, 4));
        due("A1 A2 A3", f.facts(NONE));
        Ruleengine g = with("A1 A2", "A1>$1,$2,@2", "A2>$3,$4,@1");
        put(g, 2, 0, 2, "A1,!E7>$8,@0,@1");
        put(g, 3, 0, 1, "A2,!E8>$9,@2");
        g.focus(2);
        g.focus(1);
        due(3, g.step());
        due("9", g.written());
        due(2, g.step());
        due("9 8", g.written());
        due(5, g.house(4));
        due(1, g.step());
        due("9 8 3 4", g.written());
        due(5, g.house(4));
        due(0, g.house(5));
        g.undo();
        due("9 8", g.written());
        due(5, g.house(4));
        due(0, g.house(5));
        g.undo();
        due("9", g.written());
        due(4, g.house(4));
        due(2, g.house(5));
        g.undo();
        due("", g.written());
        due(3, g.house(4));
        due(1, g.house(5));
        Ruleengine stack = with("A1", "A1>@1,$1,$2");
        put(stack, 1, 0, 2, "E1>$3");
        stack.focus(2);
        stack.focus(1);
        due(0, stack.step());
        due(2, stack.house(4));
        stack.undo();
        stack.tell(4, 1, 0, 0);
        due(1, stack.step());
        due("3", stack.written());
        due(0, stack.step());
        due("3 1 2", stack.written());
        stack.undo();
        due("3", stack.written());
        // Many done matches, and back.
        Ruleengine h = with("A0 A1 A2 A3 A4 A5", "Au,Av>Eu,Ev");
        due(30, h.run(30, false));
        due(30, h.house(3));
        h.run(2, false);
        h.undo();
        due(30, h.house(3));
        due(6, h.house(2));
        due(5, h.run(5, false));
        h.undo();
        h.undo();
        due(0, h.house(3));
        due(36, h.house(2));
        due(true, h.isSound());
        due(30, h.run(30, false));
        due(6, h.run(30, false));
        due(11, h.ofFact(h.find(4, 3, 0, 0), 6));
    }

    private static void promise14() {
        part = "promise 14";
        Ruleengine e = new Ruleengine();
        due(1, e.knock());
        due(2, e.knock());
        due(2, e.house(12));
        due(0, e.house(10));
        e.tell(0, 0, 0, 0);
        due(3, e.knock());
        e.undo();
        due(4, e.knock());
    }

    private static void promise15() {
        part = "promise 15";
        Ruleengine e = new Ruleengine();
        due("", e.typed());
        type(e, SIGNS);
        due(SIGNS, e.typed());
        e.say(39, NONE, NONE, NONE, NONE, NONE);
        due(SIGNS.substring(0, 37), e.typed());
    }

    private static void fault(int due, String text) {
        Ruleengine e = new Ruleengine();
        type(e, text);
        due(text + ":" + due, text + ":" + e.fault());
        due(text + ":" + due, text + ":" + (e.fault() == NONE ? NONE : -100 - e.rule(0, 0, 0)));
    }

    private static void promise16() {
        part = "promise 16";
        fault(0, "");
        fault(0, "@");
        fault(0, ">A1");
        fault(0, ",A1>A1");
        fault(1, "A");
        fault(1, "A!");
        fault(2, "A1");
        fault(2, "A1.");
        fault(3, "A1>");
        fault(3, "A1,");
        fault(3, "A1,>A1");
        fault(NONE, "A1>A1");
        fault(6, "A1>A1,");
        fault(5, "A1>A11");
        fault(5, "A1>A1>");
        fault(2, "A11>A1");
        fault(2, "B1>A1");
        fault(NONE, "B1_>A1");
        fault(4, "B1_>_");
        fault(5, "B1_>A_");
        fault(4, "D___");
        fault(NONE, "D___>D111");
        fault(NONE, "!C__,?E1,*Fzz,#uA_,+vwBw_,1=2>%");
        fault(1, "!!A1>A1");
        fault(1, "#1A1>%");
        fault(2, "#u1>%");
        fault(2, "+u1");
        fault(3, "+uv1");
        fault(NONE, "+uuAu>%");
        fault(1, "11");
        fault(1, "u>");
        fault(2, "u=");
        fault(2, "u=A");
        fault(NONE, "u=u>%");
        fault(NONE, "1/2>%");
        fault(NONE, "1<w>%");
        fault(4, "A1>%%");
        fault(4, "A1>-");
        fault(4, "A1>-u");
        fault(NONE, "A1>-9");
        fault(4, "A1>$A");
        fault(NONE, "A1>$z,$0");
        fault(NONE, "A1>@2");
        fault(4, "A1>@3");
        fault(4, "A1>@u");
        fault(4, "A1>..A1");
        fault(5, "A1>.A_");
        fault(NONE, "A1>.A1,B12,-0,%,@0,$1");
        fault(NONE, "A1,A1,A1,A1,A1,A1,A1>%");
        fault(0, "_1>%");
        fault(1, "A,>");
    }

    private static void fit(boolean due, String text) {
        Ruleengine e = new Ruleengine();
        type(e, text);
        due(text + ":" + due, text + ":" + e.isFit());
        int put = e.rule(0, 0, 0);
        due(text + ":" + due, text + ":" + (put >= 0));
        if (!due && e.fault() == NONE) {
            due(-3, put);
        }
    }

    private static void promise17() {
        part = "promise 17";
        fit(false, "");
        fit(false, "A1>");
        fit(true, "A1>A1");
        fit(true, "1=1,1=1,1=1,1=1,1=1>%");
        fit(false, "1=1,1=1,1=1,1=1,1=1,1=1>%");
        fit(true, "A1,A1,A1>%");
        fit(false, "A1,A1,A1,A1>%");
        fit(true, "A1,A1,A1,!A1,?A1>%");
        fit(true, "A1>%,%,%");
        fit(false, "A1>%,%,%,%");
        fit(true, "Au,u=1>%");
        fit(false, "u=1,Au>%");
        fit(false, "1<v>%");
        fit(false, "!Au,u=1>%");
        fit(false, "?Au>Au");
        fit(false, "*Au>$u");
        fit(true, "#uAv>$u");
        fit(false, "#uAv>$v");
        fit(true, "+uvAv>$u");
        fit(false, "+uvAv>$v");
        fit(false, "+uvA1>$u");
        fit(true, "Av,+uvBv_>$u");
        fit(false, "Av,+uvB1_>$u");
        fit(false, "A1>.Au");
        fit(true, "Au>.Au");
        fit(false, "Bu_>Buv");
        fit(true, "A1>-0");
        fit(false, "A1>-1");
        fit(false, "!A1>-0");
        fit(true, "A1,A2,A3>-2");
        fit(false, "A1,A2,A3>-3");
        fit(true, "+uuAu,u=3>%");
    }

    private static void promise18() {
        part = "promise 18";
        Ruleengine e = new Ruleengine();
        put(e, 3, "B_u,!A1>Eu");
        due("B_u,!A1>Eu", e.text(3));
        type(e, "A1");
        due("B_u,!A1>Eu", e.text(3));
        due("", e.text(0));
        due("", e.text(5));
        fails('I', () -> e.text(-1));
        fails('I', () -> e.text(6));
    }

    private static void promise19() {
        part = "promise 19";
        Ruleengine e = new Ruleengine();
        put(e, 2, -4, 1, "Au,!Bu_,Av,u<v>Eu,Ev");
        tell(e, "A1 A2 A3 B20");
        e.focus(1);
        e.step();
        int[] all = {-4, 1, 4, 2, 2, 1, 2, 1, 2};
        for (int what = 0; what <= 8; what++) {
            due(what + ":" + all[what], what + ":" + e.ofRule(2, what));
        }
        fails('I', () -> e.ofRule(1, 0));
        fails('I', () -> e.ofRule(-1, 0));
        fails('I', () -> e.ofRule(6, 99));
        fails('A', () -> e.ofRule(2, -1));
        fails('A', () -> e.ofRule(2, 9));
        put(e, 0, "!E1>E1");
        due(NONE, e.ofRule(2, 5));
    }

    private static void promise20() {
        part = "promise 20";
        Ruleengine e = with("A1 A2 A3", "Au,Av,u<v,!Bv_>%");
        due(3, e.partials(0, 1));
        due(9, e.partials(0, 2));
        due(3, e.partials(0, 3));
        due(3, e.partials(0, 4));
        tell(e, "B30");
        due(1, e.partials(0, 4));
        fails('I', () -> e.partials(1, 1));
        fails('I', () -> e.partials(6, 0));
        fails('A', () -> e.partials(0, 0));
        fails('A', () -> e.partials(0, 5));
    }

    private static void promise21() {
        part = "promise 21";
        Ruleengine e = with("A1 B21", "Au,Bvu,v<u,?Dvvv>%", "C__>%", "B_u,Au,#vE_,v=0>%", "1=1>%", "1=2,A_>%");
        due(2, e.stuck(0));
        due(0, e.stuck(1));
        due(4, e.stuck(2));
        due(1, e.stuck(3));
        due(0, e.stuck(4));
        tell(e, "B01");
        due(3, e.stuck(0));
        fails('I', () -> e.stuck(5));
        fails('I', () -> e.stuck(-1));
        fails('I', () -> e.stuck(6));
    }

    private static void promise22() {
        part = "promise 22";
        Ruleengine e = new Ruleengine();
        put(e, 0, 0, 0, "Au,Bvu>%");
        put(e, 1, 0, 0, "#uA_,+vwAw>%");
        put(e, 2, 1, 0, "E_>%");
        put(e, 3, 0, 0, "B_u,Au,#vB__>%");
        tell(e, "A1 E5 A2 B31 B41 B12");
        due("2:1", e.match(0));
        due("0:2,5", e.match(1));
        due("3:5,2;3", e.match(2));
        due("0:0,4", e.match(3));
        due("3:4,0;3", e.match(4));
        due("0:0,3", e.match(5));
        due("3:3,0;3", e.match(6));
        due("1:;2;3", e.match(7));
        due("", e.match(8));
        due("", e.match(1 << 30));
        fails('A', () -> e.match(-1));
        e.step();
        due("0:2,5", e.match(0));
        Ruleengine f = with("A1 A2 A3", "Au,Av>%");
        String[] all = {"0:0,2", "0:1,2", "0:2,0", "0:2,1", "0:2,2", "0:0,1", "0:1,0", "0:1,1", "0:0,0", ""};
        for (int n = 0; n < all.length; n++) {
            due(all[n], f.match(n));
        }
        Ruleengine none = with("A1", "1=1>%", "A_>%");
        due("1:0", none.match(0));
        due("0:", none.match(1));
        Ruleengine large = with("A0 A1 A2 A3 A4 A5 A6 A7 A8 A9", "Au,Av>%");
        due("0:0,9", large.match(0));
        due("0:8,9", large.match(8));
        due("0:9,0", large.match(9));
        due("0:0,1", large.match(96));
        due("0:1,1", large.match(98));
        due("0:0,0", large.match(99));
        due("", large.match(100));
        Ruleengine g = with("A1", "#uA_>%");
        g.step();
        due("", g.match(0));
        tell(g, "A2");
        due("0:;2", g.match(0));
        g.step();
        g.take(1);
        due("0:;1", g.match(0));
    }

    private static void promise23() {
        part = "promise 23";
        Ruleengine e = with("", "Au>Buu", "!B__>.C11", "*C__,D___>E1", "#uE_>Fuu", "?F__>$1");
        int[] all = {0, 0, 1, 0, 2, 3};
        for (int kind = 0; kind < 6; kind++) {
            due(all[kind], e.layer(kind));
        }
        int[] rules = {0, 1, 2, 3, 3};
        for (int slot = 0; slot < 5; slot++) {
            due(rules[slot], e.ofRule(slot, 5));
        }
        put(e, 5, "F__>A1");
        due(NONE, e.layer(0));
        due(NONE, e.layer(3));
        due(NONE, e.ofRule(0, 5));
        e.drop(5);
        due(3, e.layer(5));
        Ruleengine most = with("", "!A_>B11", "!B__>C11", "!C__>D111", "!D___>E1", "!E_>F11", "!F__>$1");
        due(5, most.layer(5));
        due(6, most.ofRule(5, 5));
        due(0, most.layer(0));
        fails('A', () -> e.layer(-1));
        fails('A', () -> e.layer(6));
        Ruleengine less = with("", "!A_>E1", "!E_>F11", "!F__>C11");
        due(3, less.layer(2));
        less.drop(1);
        due(1, less.layer(2));
        due(1, less.ofRule(2, 5));
        due(0, less.layer(5));
        less.undo();
        due(3, less.ofRule(2, 5));
        Ruleengine f = with("", "Au>Eu", "Eu>Au", "+uvAv>Cuu");
        due(0, f.layer(0));
        due(1, f.layer(2));
        put(f, 3, "C__>.E1");
        for (int kind = 0; kind < 6; kind++) {
            due(NONE, f.layer(kind));
        }
        due(-6, f.run(1, true));
    }

    private static void promise24() {
        part = "promise 24";
        Ruleengine e = with("B12 D123 A0");
        due(0, e.find(1, 1, 2, 99));
        due(1, e.find(3, 1, 2, 3));
        due(NONE, e.find(3, 1, 2, 4));
        due(2, e.find(0, 0, -1, -1));
        due(NONE, e.find(4, 0, 0, 0));
        e.take(0);
        due(NONE, e.find(1, 1, 2, 0));
        fails('A', () -> e.find(-1, 0, 0, 0));
        fails('A', () -> e.find(6, 0, 0, 0));
        fails('A', () -> e.find(0, 10, 0, 0));
        fails('A', () -> e.find(2, 0, -1, 0));
        fails('A', () -> e.find(3, 0, 0, 10));
    }

    private static void promise25() {
        part = "promise 25";
        Ruleengine e = with("A1", "Au>Eu,Buu", "?A1>E1", "Eu>Duuu");
        e.pass(4);
        due(3, e.run(30, false));
        due("A1 E1 B11 D111", e.facts(NONE));
        int[][] all = {{0, 1, NONE, NONE, 0, 1, 0, 0}, {4, 1, NONE, NONE, 4, 0, 2, 1}, {1, 1, 1, NONE, 4, 0, 1, 1},
            {3, 1, 1, 1, 4, 0, 1, 2}};
        for (int fact = 0; fact < 4; fact++) {
            for (int what = 0; what <= 7; what++) {
                due(fact + "," + what + ":" + all[fact][what], fact + "," + what + ":" + e.ofFact(fact, what));
            }
        }
        fails('I', () -> e.ofFact(4, 0));
        fails('I', () -> e.ofFact(-1, 8));
        fails('A', () -> e.ofFact(0, -1));
        fails('A', () -> e.ofFact(0, 8));
        due(4, e.deny(0));
    }

    private static void promise26() {
        part = "promise 26";
        Ruleengine e = with("D123 A1 B07 A0 F99");
        due("D123 A1 B07 A0 F99", e.facts(NONE));
        due("A1 A0", e.facts(0));
        due("", e.facts(2));
        e.take(1);
        tell(e, "A1");
        due("D123 B07 A0 F99 A1", e.facts(NONE));
        fails('A', () -> e.facts(-2));
        fails('A', () -> e.facts(6));
    }

    private static void promise27() {
        part = "promise 27";
        Ruleengine e = with("A1 A2", "Au,Av,u/v>Cuv", "Cuv,Au>Eu", "Eu>Fuu", "Fuu>Duuu", "Duuu>Eu");
        e.run(30, false);
        int c12 = e.find(2, 1, 2, 0);
        int e1 = e.find(4, 1, 0, 0);
        int d1 = e.find(3, 1, 1, 1);
        due("A1!", e.why(0, 0));
        due("A1!", e.why(0, 4));
        due("C12", e.why(c12, 0));
        due("C12(0 A1! A2!)", e.why(c12, 1));
        due("E1(1 C12 A1!)", e.why(e1, 1));
        due("E1(1 C12(0 A1! A2!) A1!)", e.why(e1, 2));
        due("D111(3 F11(2 E1(1 C12(0 A1! A2!) A1!)))", e.why(d1, 4));
        due("D111(3 F11(2 E1(1 C12 A1!)))", e.why(d1, 3));
        due(2, e.ofFact(e1, 6));
        e.tell(2, 1, 2, 0);
        due("E1(1 C12! A1!)", e.why(e1, 4));
        fails('I', () -> e.why(99, 0));
        fails('I', () -> e.why(-1, 9));
        fails('A', () -> e.why(0, -1));
        fails('A', () -> e.why(0, 5));
        // Slot 0 gives a reason, too, but by a fact of a rank that is not smaller.
        Ruleengine ring = with("A1", "Fuu>Eu", "Au>Eu", "Eu>Fuu");
        due(3, ring.run(30, false));
        due(2, ring.ofFact(1, 6));
        due("E1(1 A1!)", ring.why(1, 4));
        Ruleengine same = with("E1", "Eu>A1,C11", "Au>C11", "Cuu>A1");
        due(3, same.run(30, false));
        due("A1(0 E1!)", same.why(same.find(0, 1, 0, 0), 4));
        due(1, same.ofFact(same.find(2, 1, 1, 0), 7));
        due("C11(0 E1!)", same.why(same.find(2, 1, 1, 0), 4));
        Ruleengine later = with("E1", "Au>C11", "Eu>A1,C11");
        due(2, later.run(30, false));
        due("C11(1 E1!)", later.why(later.find(2, 1, 1, 0), 4));
        Ruleengine back = with("A1 A2", "Au>E1");
        due(2, back.run(30, false));
        back.take(0);
        back.tell(0, 9, 0, 0);
        due("A2 E1 A9", back.facts(NONE));
        back.undo();
        back.undo();
        due("E1(0 A1!)", back.why(2, 1));
        Ruleengine f = with("", "!A_>E1");
        f.step();
        due("E1(0)", f.why(0, 1));
        due("E1", f.why(0, 0));
        Ruleengine g = with("A1 A2 A3", "Au>E1", "Au,Av,u<v>E1");
        g.run(30, false);
        due(6, g.ofFact(3, 6));
        due("E1(0 A1!)", g.why(3, 3));
        g.drop(0);
        due("E1(1 A1! A2!)", g.why(3, 3));
    }

    private static void promise28() {
        part = "promise 28";
        Ruleengine e = with("A1", "Au>Eu", "Eu,!C__>Duu1", "Duvw>-0,Fuv,%");
        due(1, e.could(0, 1, 5, 5, 0));
        due(0, e.could(4, 1, 0, 0, 0));
        due(1, e.could(4, 1, 0, 0, 1));
        due(0, e.could(3, 1, 1, 1, 1));
        due(1, e.could(3, 1, 1, 1, 2));
        due(0, e.could(5, 1, 1, 0, 2));
        due(1, e.could(5, 1, 1, 0, 3));
        due(0, e.could(5, 1, 2, 0, 3));
        due("A1", e.facts(NONE));
        tell(e, "C00");
        due(0, e.could(3, 1, 1, 1, 3));
        fails('A', () -> e.could(6, 0, 0, 0, 0));
        fails('A', () -> e.could(-1, 0, 0, 0, 0));
        fails('A', () -> e.could(0, 10, 0, 0, 0));
        fails('A', () -> e.could(3, 0, 0, 10, 0));
        fails('A', () -> e.could(0, 0, 0, 0, -1));
        fails('A', () -> e.could(0, 0, 0, 0, 4));
        Ruleengine told = with("A1", "Au>.Eu", "!Eu,Av>Fvv");
        due(0, told.could(4, 1, 0, 0, 3));
        due(1, told.could(5, 1, 1, 0, 1));
        Ruleengine some = with("A1", "Au>Eu", "?E_>C11", "#uE_,Av>Buv");
        due(0, some.could(2, 1, 1, 0, 3));
        due(1, some.could(1, 0, 1, 0, 3));
        due(0, some.could(1, 1, 1, 0, 3));
        Ruleengine many = with("A1 A2 A3 A4 A5 E0 E1 E2 E3 E4 E5 E6 E7 E8 E9", "Au,Av>Buv");
        due(1, many.could(1, 5, 4, 0, 1));
        due(0, many.could(1, 5, 6, 0, 3));
        due(1, many.could(0, 1, 0, 0, 1));
        tell(many, "D000");
        due(MANY, many.could(1, 5, 4, 0, 1));
        due(MANY, many.could(0, 1, 0, 0, 1));
        due(MANY, many.could(1, 5, 6, 0, 3));
        due(1, many.could(0, 1, 0, 0, 0));
        due(0, many.could(1, 5, 4, 0, 0));
        many.take(0);
        due(1, many.could(1, 5, 4, 0, 1));
        due(0, many.could(1, 1, 4, 0, 1));
        many.undo();
        due(MANY, many.could(1, 5, 4, 0, 1));
        many.window(0, 1, 0);
        many.window(3, 1, 0);
        many.window(4, 1, 0);
        many.pass(1);
        due("", many.facts(NONE));
        due(0, many.could(1, 5, 4, 0, 3));
    }

    private static void promise29() {
        part = "promise 29";
        Ruleengine e = with("A1 A2 A3 A4 A5", "Au>$u,$0,$u");
        due("", e.written());
        e.step();
        due("5 0 5", e.written());
        due(3, e.run(3, false));
        due("5 0 5 4 0 4 3 0 3 2 0 2", e.written());
        e.step();
        due("4 0 4 3 0 3 2 0 2 1 0 1", e.written());
        e.undo();
        due("5 0 5 4 0 4 3 0 3 2 0 2", e.written());
        Ruleengine f = with("A9 A8 A7", "+uvAv>$u,Eu");
        f.step();
        due("24", f.written());
        due("E4", f.facts(4));
    }

    private static void promise30() {
        part = "promise 30";
        Ruleengine e = new Ruleengine();
        put(e, 0, 0, 0, "Au,Bu_>Eu");
        put(e, 1, 0, 0, "Au,Bu_,!C__>Fuu");
        put(e, 2, 0, 1, "Av,Bv_>Ev");
        put(e, 4, 0, 2, "Au,Bu_>%");
        tell(e, "A1 B12 B13");
        e.pass(5);
        e.focus(1);
        e.step();
        e.knock();
        int[] all = {4, 4, 7, 1, 2, 1, 5, 4, 5, 8, 6, 1, 1};
        for (int what = 0; what <= 12; what++) {
            due(what + ":" + all[what], what + ":" + e.house(what));
        }
        e.take(3);
        due(3, e.house(0));
        due(4, e.house(1));
        due(1, e.house(3));
        e.drop(1);
        due(4, e.house(8));
        fails('A', () -> e.house(-1));
        fails('A', () -> e.house(13));
        due(2, with("", "A1,A1>%", "A1>%").house(7));
        due(2, with("", "A1,A1>%", "A1>%").house(8));
        due(4, with("", "A1,A1>%", "A2,A1>%", "A1>$1").house(8));
    }

    private static void promise31() {
        part = "promise 31";
        Ruleengine e = with("A1 A2 A3 B12 B23", "Au,Bu_,Bv_>Cuv", "!C11,Au>Eu", "#uA_,+vwBw_>Duv1");
        due(true, e.isSound());
        for (int i = 0; i < 12; i++) {
            e.step();
            due(true, e.isSound());
        }
        e.window(2, 3, 2);
        due(true, e.isSound());
        e.take(0);
        due(true, e.isSound());
        e.pass(3);
        due(true, e.isSound());
        for (int i = 0; i < 6; i++) {
            e.undo();
            due(true, e.isSound());
        }
    }

    /** Adds up what the document names, by the other calls. */
    private static long digestOf(Ruleengine e) {
        long d = 5906;
        for (int what = 0; what <= 12; what++) {
            d = d * 31 + e.house(what);
        }
        for (int fact = 0; fact < e.house(1); fact++) {
            boolean stands;
            try {
                e.ofFact(fact, 0);
                stands = true;
            } catch (IndexOutOfBoundsException x) {
                stands = false;
            }
            if (stands) {
                d = d * 31 + fact;
                for (int what = 0; what <= 7; what++) {
                    d = d * 31 + e.ofFact(fact, what);
                }
                d = d * 31 + e.why(fact, 3).length();
            }
        }
        for (int slot = 0; slot < 6; slot++) {
            if (!e.text(slot).isEmpty()) {
                d = d * 31 + slot;
                for (int what = 0; what <= 8; what++) {
                    d = d * 31 + e.ofRule(slot, what);
                }
                for (int k = 1; k <= e.ofRule(slot, 2); k++) {
                    d = d * 31 + e.partials(slot, k);
                }
                d = d * 31 + e.stuck(slot);
            }
        }
        d = d * 31 + e.match(0).length();
        for (int kind = 0; kind < 6; kind++) {
            d = d * 31 + e.layer(kind);
        }
        d = d * 31 + e.fault();
        d = d * 31 + e.could(0, 1, 0, 0, 1);
        d = d * 31 + e.could(1, 1, 2, 0, 1);
        d = d * 31 + e.written().length();
        return d * 31 + (e.isSound() ? 1 : 0);
    }

    private static void isDigest(Ruleengine e) {
        long got = e.digest();
        due(digestOf(e), got);
        due(got, e.digest());
    }

    private static void promise32() {
        part = "promise 32";
        Ruleengine e = new Ruleengine();
        long d = 5906;
        int[] house = {0, 0, 0, 0, 1, 0, 0, 0, 0, 0, 0, 0, 0};
        int[] rest = {0, 0, 0, 0, 0, 0, 0, 0, 0, 0, 0, 1};
        for (int v : house) {
            d = d * 31 + v;
        }
        for (int v : rest) {
            d = d * 31 + v;
        }
        due(d, e.digest());
        put(e, 1, 3, 0, "Au,Bvw,!Cuu>Ew,$v");
        put(e, 4, -2, 1, "Eu>Duuu,B12,@2");
        tell(e, "A1 A2 B34 B07 F99");
        e.focus(1);
        isDigest(e);
        e.pass(8);
        for (int i = 0; i < 5; i++) {
            e.run(1 + i, i % 2 == 1);
            isDigest(e);
            e.take(i);
            isDigest(e);
        }
        int changes = e.house(10);
        e.digest();
        due(changes, e.house(10));
        Ruleengine one = with("E1", "E1>A1", "B22>B12", "Eu,Ev>%");
        isDigest(one);
        Ruleengine two = with("E1", "E1>B12");
        isDigest(two);
        Ruleengine three = with("E1", "E1>A0,A2,B02", "E1>B22,B11,B10", "E1>B13,C12,A2");
        isDigest(three);
        Ruleengine four = with("A1 A2 A3 A4 A5 A6", "Au,Av>Buv", "E2>%");
        tell(four, "E2");
        due("1:6", four.match(0));
        due(-5, four.could(0, 1, 0, 0, 1));
        isDigest(four);
        type(four, "A1>");
        isDigest(four);
    }

    private static void settling() {
        part = "settling";
        // A ring does not found itself.
        Ruleengine e = with("A1", "Au>Eu", "Eu>Fuu", "Fuv>Eu");
        due(3, e.run(30, false));
        due(2, e.ofFact(1, 6));
        due(1, e.ofFact(1, 7));
        due(2, e.ofFact(2, 7));
        due(3, e.deny(0));
        due("", e.facts(NONE));
        // What comes again has no reasons of before.
        Ruleengine f = with("A1", "Au>Eu");
        f.step();
        f.take(1);
        due(NONE, f.step());
        f.tell(4, 1, 0, 0);
        due(0, f.ofFact(2, 6));
        due(1, f.deny(2));
        // A match that does not hold any more is done no more, and may be done again.
        Ruleengine g = with("A1", "Au,!Bu_>Eu");
        g.step();
        tell(g, "B10");
        due("A1 B10", g.facts(NONE));
        due(0, g.house(3));
        g.take(g.find(1, 1, 0, 0));
        due("0:0", g.match(0));
        due(0, g.step());
        due("A1 E1", g.facts(NONE));
        due(4, g.house(1));
        // Rounds: what goes lets others go, at once in each round.
        Ruleengine h = with("A1", "Au>Eu", "?E1>C11", "!E1,?C11>D111");
        due(2, h.run(2, false));
        due("A1 E1 C11", h.facts(NONE));
        due(3, h.take(0));
        due("", h.facts(NONE));
        // A reason without facts gives the rank 1.
        Ruleengine k = with("", "!A1>E1");
        k.step();
        due(1, k.ofFact(0, 7));
        // A count of which the number changes is another match.
        Ruleengine m = with("A1", "#uA_>Eu");
        m.step();
        due("A1 E1", m.facts(NONE));
        tell(m, "A2");
        due("A1 A2", m.facts(NONE));
    }

    private static void acts() {
        part = "acts";
        // Once the match is done no more, it puts nothing; it still tells, takes, and writes.
        Ruleengine e = with("A1 A2", "A1>-0,E1,.C11", "Au,u=2>-0,$u,@2");
        due(1, e.step());
        due("2", e.written());
        due(2, e.house(5));
        due(0, e.step());
        due("C11", e.facts(NONE));
        due(0, e.house(3));
        // A put that breaks its own match.
        Ruleengine f = with("A1", "Au,!E_>Eu,Fuu,$u");
        f.step();
        due("A1", f.facts(NONE));
        due("1", f.written());
        due(2, f.house(1));
        due(1, f.house(11));
        // With 16 standing nothing more comes.
        Ruleengine g = with("A0 A1 A2 A3 A4 A5 A6 A7 A8 A9 E0 E1 E2 E3 E4", "A9>B11,B22,E4", "A8>.B33,.B11,B11");
        due(0, g.step());
        due("B11", g.facts(1));
        due(1, g.ofFact(14, 6));
        due(0, g.ofFact(13, 6));
        due(0, g.ofFact(15, 5));
        due(1, g.step());
        due("B11", g.facts(1));
        due(2, g.ofFact(15, 6));
        due(1, g.ofFact(15, 5));
        due(16, g.house(1));
        // Values modulo 10, written whole.
        Ruleengine h = with("A9 A8", "+uvAv>Eu,.Fu1,$u");
        h.step();
        due("A9 A8 E7 F71", h.facts(NONE));
        due("17", h.written());
        // No fact fits a value above 9.
        Ruleengine k = with("A9 A8 E7", "+uvAv,Eu>%", "+uvAv,!Eu>$u", "+uvAv,*Eu>$0", "Au,#uE_>%");
        due("1:;17", k.match(0));
        due(1, k.house(2));
        // The window of a kind lets what a put has brought drive out another.
        Ruleengine m = with("A1 A2 A3", "Au>Eu");
        m.window(4, 0, 2);
        due(3, m.run(30, false));
        due("A1 A2 A3 E2 E1", m.facts(NONE));
        due(0, m.run(5, false));
        // Focus: not if it is the top, nor with 5.
        Ruleengine n = with("A1 A2 A3", "Au>@1,@2,@1");
        n.step();
        due(4, n.house(4));
        n.step();
        due(4, n.house(4));
        Ruleengine o = new Ruleengine();
        put(o, 0, 0, 1, "Au>@0,@2,@1");
        tell(o, "A1");
        o.focus(1);
        o.focus(2);
        o.focus(1);
        due(0, o.step());
        due(5, o.house(4));
        due(0, o.house(5));
        // The same fact for several.
        Ruleengine p = with("A1", "Au,Av>-0,-1,$u");
        due("0:0,0", p.match(0));
        p.step();
        due("1", p.written());
        due("", p.facts(NONE));
        // Variables and blanks of atoms.
        Ruleengine q = with("B11 B12 C21 C22", "Buu>%", "Bu_,C_u>%", "!Buu>%", "*Buu>%", "?Cuu>%", "#uBvv,+wvC_v>%");
        due(1, q.ofRule(0, 6));
        due(2, q.ofRule(1, 6));
        due(0, q.ofRule(2, 6));
        due(0, q.ofRule(3, 6));
        due(1, q.ofRule(4, 6));
        due(1, q.ofRule(5, 6));
        due("4:", q.match(3));
        due("5:;1;3", q.match(4));
        due(1, with("", "*Buu>%").ofRule(0, 6));
        due(2, with("D121 D122 D112 D123 D111", "Duvu>%").ofRule(0, 6));
        due(2, with("D121 D122 D112 D123 D111", "Duvv>%").ofRule(0, 6));
        due(2, with("D121 D122 D112 D123 D111", "Duuv>%").ofRule(0, 6));
        due(1, with("D121 D122 D112 D123 D111", "Dzzz>%").ofRule(0, 6));
        due(3, with("D121 D122 D112 D123 D111", "D12_>%").ofRule(0, 6));
        due(4, with("D121 D122 D112 D123 D111 E1 E2", "Ev,Dvvu,Ew>%").ofRule(0, 6));
        // A variable of a count that has a value ahead.
        Ruleengine r = with("A2 E1 E2", "Au,#uE_>%", "Au,+uvEv>%", "#uE_,Au>%");
        due(1, r.ofRule(0, 6));
        due(0, r.ofRule(1, 6));
        due(1, r.ofRule(2, 6));
        // Rules without facts, and tests.
        due(1, with("A3", "Au,u=3,2<u,u/4,3=u>%").ofRule(0, 6));
        due(0, with("A3", "Au,u<3>%").ofRule(0, 6));
        due(0, with("A3", "Au,u/3>%").ofRule(0, 6));
    }
}

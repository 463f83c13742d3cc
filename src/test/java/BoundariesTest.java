import java.util.ArrayList;
import java.util.Arrays;
import java.util.List;

/** The boundary cases of sections 1 to 6 of the document, sentence by sentence, worked out by hand. */
public final class BoundariesTest {
    private static final String SIGNS = "0123456789ABCDEFuvwxyz_!?*#+=/<,>.-$%@";
    private static final int[] FIELDS = {1, 2, 2, 3, 1, 2};
    private static final int[] BEYOND = {-1, 10, Integer.MIN_VALUE, Integer.MAX_VALUE};
    private static final int NONE = -1;
    private static final int UNFIT = -3;
    private static final int FULL = -4;
    private static final int MANY = -5;
    private static final int RING = -6;
    private static int wrong = 0;
    private static int asked = 0;
    private static String part = "";

    interface Call {
        Object make();
    }

    public static void main(String[] args) {
        kindsAndValues();
        numbers();
        sixteen();
        minutes();
        windowByMinutes();
        windowByCount();
        goesAndComesAgain();
        signs();
        faults();
        nextSigns();
        unfit();
        slots();
        fitting();
        conditions();
        aboveNine();
        sameMatch();
        partialsAndNodes();
        agendaOrder();
        steps();
        puts();
        tells();
        takes();
        writes();
        stops();
        focuses();
        settling();
        founded();
        ranks();
        layers();
        coulds();
        undone();
        isNoChange();
        staysBehindUndoing();
        System.out.println(asked + " asked, " + wrong + " wrong");
        if (wrong != 0) {
            System.exit(1);
        }
    }

    private static void due(Object due, Object got) {
        asked++;
        if (!due.equals(got)) {
            wrong++;
            System.out.println(part + lines() + ": answered " + got + ", due is " + due);
        }
    }

    private static String lines() {
        StringBuilder text = new StringBuilder();
        for (StackTraceElement at : new Throwable().getStackTrace()) {
            if (!"due".equals(at.getMethodName()) && !"lines".equals(at.getMethodName())) {
                text.append(", line ").append(at.getLineNumber());
            }
        }
        return text.toString();
    }

    private static String answer(Call call) {
        try {
            return String.valueOf(call.make());
        } catch (RuntimeException e) {
            return e.getClass().getSimpleName();
        }
    }

    /** A for IllegalArgumentException, S for IllegalStateException, I for IndexOutOfBoundsException. */
    private static void refused(char due, Ruleengine e, Call call) {
        String before = all(e) + e.digest();
        due(due == 'A' ? "IllegalArgumentException" : due == 'S' ? "IllegalStateException"
            : "IndexOutOfBoundsException", answer(call));
        due(before, all(e) + e.digest());
    }

    /** A call that comes to nothing: it answers so, and changes nothing. */
    private static void nothing(Object due, Ruleengine e, Call call) {
        String before = all(e) + e.digest();
        due(due, call.make());
        due(before, all(e) + e.digest());
    }

    /** All that can be asked, but how many changes can be undone. */
    private static String all(Ruleengine e) {
        StringBuilder text = new StringBuilder();
        text.append(e.typed()).append('|').append(e.facts(NONE)).append('|').append(e.written()).append('|');
        for (int what = 0; what <= 12; what++) {
            text.append(what == 10 ? 0 : e.house(what)).append(' ');
        }
        for (int slot = 0; slot < 6; slot++) {
            text.append('|').append(e.text(slot));
            for (int what = 0; what <= 8 && !e.text(slot).isEmpty(); what++) {
                text.append(' ').append(e.ofRule(slot, what));
            }
        }
        for (int fact = 0; fact < e.house(1); fact++) {
            int number = fact;
            if (answer(() -> e.ofFact(number, 0)).length() < 9) {
                text.append('|').append(e.why(fact, 4));
                for (int what = 4; what <= 7; what++) {
                    text.append(' ').append(e.ofFact(fact, what));
                }
            }
        }
        for (int n = 0; n < 40 && !e.match(n).isEmpty(); n++) {
            text.append('|').append(e.match(n));
        }
        return text.toString();
    }

    private static void type(Ruleengine e, String text) {
        e.say(38, NONE, NONE, NONE, NONE, NONE);
        for (int i = 0; i < text.length(); i++) {
            e.say(SIGNS.indexOf(text.charAt(i)), NONE, NONE, NONE, NONE, NONE);
        }
    }

    private static int put(Ruleengine e, int slot, int urgency, int module, String text) {
        type(e, text);
        return e.rule(slot, urgency, module);
    }

    private static int put(Ruleengine e, int slot, String text) {
        return put(e, slot, 0, 0, text);
    }

    /** Tells facts as "A3 B07"; answers the number of the last one. */
    private static int tell(Ruleengine e, String facts) {
        int number = NONE;
        for (String fact : facts.split(" ")) {
            int[] value = new int[3];
            for (int i = 1; i < fact.length(); i++) {
                value[i - 1] = fact.charAt(i) - '0';
            }
            number = e.tell(fact.charAt(0) - 'A', value[0], value[1], value[2]);
        }
        return number;
    }

    private static int find(Ruleengine e, String fact) {
        int[] value = new int[3];
        for (int i = 1; i < fact.length(); i++) {
            value[i - 1] = fact.charAt(i) - '0';
        }
        return e.find(fact.charAt(0) - 'A', value[0], value[1], value[2]);
    }

    private static Ruleengine with(String facts, String... rules) {
        Ruleengine e = new Ruleengine();
        for (int slot = 0; slot < rules.length; slot++) {
            put(e, slot, rules[slot]);
        }
        if (!facts.isEmpty()) {
            tell(e, facts);
        }
        return e;
    }

    /** So many facts B00, B01 and so on. */
    private static Ruleengine crowd(int count, String... rules) {
        Ruleengine e = with("", rules);
        for (int i = 0; i < count; i++) {
            e.tell(1, i / 10, i % 10, 0);
        }
        return e;
    }

    // ---- 1. Facts

    private static void kindsAndValues() {
        part = "1, kinds and values";
        for (int kind = 0; kind <= 5; kind++) {
            Ruleengine e = new Ruleengine();
            int of = kind;
            due(0, e.tell(kind, 0, 0, 0));
            due(1, e.tell(kind, 9, 9, 9));
            due(2, e.tell(kind, 5, 5, 5));
            String letter = SIGNS.substring(10 + kind, 11 + kind);
            String[] texts = {letter + "000", letter + "999", letter + "555"};
            for (int i = 0; i < 3; i++) {
                texts[i] = texts[i].substring(0, 1 + FIELDS[kind]);
            }
            due(texts[0] + " " + texts[1] + " " + texts[2], e.facts(kind));
            due(e.facts(kind), e.facts(NONE));
            for (int field = 0; field < 3; field++) {
                due(field < FIELDS[kind] ? 9 : NONE, e.ofFact(1, 1 + field));
                for (int value : BEYOND) {
                    int a = field == 0 ? value : 5;
                    int b = field == 1 ? value : 5;
                    int c = field == 2 ? value : 5;
                    if (field < FIELDS[kind]) {
                        refused('A', e, () -> e.tell(of, a, b, c));
                        refused('A', e, () -> e.find(of, a, b, c));
                        refused('A', e, () -> e.could(of, a, b, c, 0));
                    } else {
                        due(2, e.tell(kind, a, b, c));
                        due(2, e.find(kind, a, b, c));
                        due(1, e.could(kind, a, b, c, 0));
                        due(1, e.could(kind, a, b, c, 3));
                    }
                }
            }
            due(3, e.house(0));
        }
        Ruleengine e = new Ruleengine();
        for (int kind : new int[] {-1, 6, Integer.MIN_VALUE, Integer.MAX_VALUE}) {
            refused('A', e, () -> e.tell(kind, 0, 0, 0));
            refused('A', e, () -> e.find(kind, 0, 0, 0));
            refused('A', e, () -> e.could(kind, 0, 0, 0, 0));
            refused('A', e, () -> e.window(kind, 0, 0));
            refused('A', e, () -> e.layer(kind));
            if (kind != NONE) {
                refused('A', e, () -> e.facts(kind));
            }
        }
        refused('A', e, () -> e.facts(-2));
        // Alike are only facts of one kind with the same values.
        Ruleengine f = new Ruleengine();
        due(11, tell(f, "B12 B21 C12 F12 D121 D112 D211 A1 E1 A2 B11 B22"));
        due(12, f.house(0));
        due("B12 B21 B11 B22", f.facts(1));
        due(4, tell(f, "D121"));
        due(12, f.house(0));
        due(12, f.house(1));
    }

    private static void numbers() {
        part = "1, numbers";
        Ruleengine e = new Ruleengine();
        due(0, tell(e, "A1"));
        due(1, e.take(0));
        due(1, tell(e, "A1"));
        refused('I', e, () -> e.take(0));
        due(1, e.window(0, 1, 0) + e.pass(1));
        due(2, tell(e, "A1"));
        e.window(0, 0, 1);
        due(3, tell(e, "A2"));
        due(4, tell(e, "A1"));
        due("A1", e.facts(NONE));
        due(5, e.house(1));
        // What goes by settling, and comes and goes at once, has used its number, too.
        Ruleengine f = with("A1", "Au>Eu", "Eu,!F__>Fuu");
        due(3, f.run(3, false));
        due("A1 E1", f.facts(NONE));
        due(4, f.house(1));
        due(4, tell(f, "B11"));
        // A fact without room has used none.
        Ruleengine g = crowd(16);
        due(FULL, tell(g, "A1"));
        g.take(0);
        due(16, tell(g, "A1"));
    }

    private static void sixteen() {
        part = "1, sixteen";
        Ruleengine e = crowd(15);
        due(15, e.house(0));
        due(15, tell(e, "D000"));
        due(16, e.house(0));
        for (int kind = 0; kind <= 5; kind++) {
            int of = kind;
            nothing(FULL, e, () -> e.tell(of, 7, 7, 7));
        }
        due(15, tell(e, "D000"));
        due(3, tell(e, "B03"));
        due(true, e.isSound());
        // Full is full, also if the window of the kind would make room.
        Ruleengine f = crowd(16);
        due(0, f.window(1, 0, 16));
        nothing(FULL, f, () -> tell(f, "B99"));
        due(1, f.window(1, 0, 15));
        due(16, tell(f, "B99"));
        due(15, f.house(0));
        due(NONE, find(f, "B01"));
        due(17, tell(f, "A1"));
        nothing(FULL, f, () -> tell(f, "B98"));
        due(2, find(f, "B02"));
    }

    private static void minutes() {
        part = "1, minutes";
        Ruleengine e = new Ruleengine();
        due(0, e.house(6));
        due(0, tell(e, "A0"));
        due(0, e.ofFact(0, 4));
        for (int i = 0; i < 100; i++) {
            due(0, e.pass(99));
        }
        due(9900, e.house(6));
        due(1, tell(e, "A1"));
        due(9900, e.ofFact(1, 4));
        due(0, e.pass(98));
        due(9998, e.house(6));
        refused('S', e, () -> e.pass(2));
        refused('S', e, () -> e.pass(99));
        refused('A', e, () -> e.pass(100));
        due(0, e.pass(1));
        due(9999, e.house(6));
        refused('S', e, () -> e.pass(1));
        refused('A', e, () -> e.pass(0));
        due(2, tell(e, "A2"));
        due(9999, e.ofFact(2, 4));
        due(1, tell(e, "A1"));
        due(9900, e.ofFact(1, 4));
        e.take(1);
        due(3, tell(e, "A1"));
        due(9999, e.ofFact(3, 4));
        due("A0 A2 A1", e.facts(NONE));
        due(true, e.isSound());
        Ruleengine f = new Ruleengine();
        for (int i = 0; i < 100; i++) {
            f.pass(99);
        }
        due(0, f.pass(99));
        due(9999, f.house(6));
        f.undo();
        f.pass(1);
        refused('S', f, () -> f.pass(99));
        due(0, f.pass(98));
        due(9999, f.house(6));
    }

    private static void windowByMinutes() {
        part = "1, window by minutes";
        Ruleengine e = with("A1");
        due(0, e.window(0, 1, 0));
        due("A1", e.facts(NONE));
        due(1, e.pass(1));
        due(1, tell(e, "A2"));
        due(0, e.window(0, 99, 0));
        due(0, e.pass(98));
        due(1, e.pass(1));
        due(2, tell(e, "A3"));
        due(0, e.window(0, 0, 0));
        due(0, e.pass(99));
        due(0, e.pass(99));
        due("A3", e.facts(NONE));
        due(1, e.window(0, 99, 0));
        due(4, tell(e, "A4 B44"));
        e.pass(5);
        due(0, e.window(0, 6, 0));
        due(1, e.window(0, 5, 0));
        // Being told again it is as old as before.
        int age = tell(e, "A5");
        due(0, e.pass(4));
        due(age, tell(e, "A5"));
        due(1, e.pass(1));
        // The window of another kind lets nothing go.
        due(0, e.window(4, 1, 1));
        due(0, e.pass(99));
        due("B44", e.facts(NONE));
        due(1, e.window(1, 99, 0));
        // Long beyond it at once; just so old, and one younger.
        tell(e, "C00");
        e.pass(1);
        tell(e, "C11");
        e.window(2, 10, 0);
        due(1, e.pass(9));
        due("C11", e.facts(NONE));
        due(1, e.pass(99));
        for (int most : new int[] {-1, 100, Integer.MIN_VALUE, Integer.MAX_VALUE}) {
            refused('A', e, () -> e.window(0, most, 0));
        }
        tell(e, "A7");
        due(0, e.window(0, 99, 0));
        due(0, e.pass(98));
        due(1, e.pass(99));
        // Of what has been put, too; what goes by a window is not counted twice by settling.
        Ruleengine f = with("A1", "Au>Eu,Fuu");
        f.step();
        f.window(0, 3, 0);
        f.window(4, 3, 0);
        due(0, f.pass(2));
        due(3, f.pass(1));
        due("", f.facts(NONE));
        Ruleengine g = with("A1", "Au>Eu,Fuu");
        g.step();
        g.pass(2);
        due(1, g.window(4, 2, 0));
        due("A1 F11", g.facts(NONE));
        due(1, g.ofRule(0, 7));
        due(0, g.house(2));
        due(1, g.ofRule(0, 8));
        due(2, g.window(0, 2, 0));
    }

    private static void windowByCount() {
        part = "1, window by count";
        Ruleengine e = crowd(16);
        due(16, e.house(0));
        due(0, e.window(1, 0, 16));
        due(1, e.window(1, 0, 15));
        due(13, e.window(1, 0, 2));
        due("B14 B15", e.facts(NONE));
        due(16, tell(e, "B00"));
        due("B15 B00", e.facts(NONE));
        due(16, tell(e, "B00"));
        due(15, tell(e, "B15"));
        due("B15 B00", e.facts(NONE));
        due(17, tell(e, "B07"));
        due("B00 B07", e.facts(NONE));
        due(18, tell(e, "C07"));
        due("B00 B07 C07", e.facts(NONE));
        due(0, e.window(1, 0, 0));
        tell(e, "B01 B02");
        due("B00 B07 C07 B01 B02", e.facts(NONE));
        due(3, e.window(1, 0, 1));
        due("C07 B02", e.facts(NONE));
        tell(e, "B09");
        due("C07 B09", e.facts(NONE));
        for (int most : new int[] {-1, 17, Integer.MIN_VALUE, Integer.MAX_VALUE}) {
            refused('A', e, () -> e.window(1, 0, most));
        }
        tell(e, "B08");
        due("C07 B08", e.facts(NONE));
        // By minutes and by count at once.
        Ruleengine f = with("A1 A2");
        f.pass(2);
        tell(f, "A3 A4 A5");
        due(4, f.window(0, 2, 1));
        due("A5", f.facts(NONE));
        tell(f, "A6");
        due("A6", f.facts(NONE));
        due(0, f.pass(1));
        due(1, f.pass(1));
        // The smallest number goes, though it has reasons, is told, or has the greater value.
        Ruleengine g = with("E9 A1", "Au>Eu");
        g.window(4, 0, 1);
        due(0, g.step());
        due("A1 E1", g.facts(NONE));
        tell(g, "E0");
        due("A1 E0", g.facts(NONE));
        due(1, g.ofRule(0, 7));
        due(NONE, g.step());
        // One more may go by settling: it is counted.
        Ruleengine h = with("A1 A2", "Au>Eu");
        h.run(2, false);
        due(2, h.window(0, 0, 1));
        due("A2 E2", h.facts(NONE));
    }

    private static void goesAndComesAgain() {
        part = "1, goes and comes again";
        Ruleengine e = with("A1", "Au>Eu", "Au>Eu,Fuu");
        due(2, e.run(2, false));
        due(2, e.ofFact(find(e, "E1"), 6));
        due(1, e.take(find(e, "E1")));
        due("A1 F11", e.facts(NONE));
        due(3, tell(e, "E1"));
        due(0, e.ofFact(3, 6));
        due(0, e.ofRule(0, 8));
        due(1, e.ofRule(1, 8));
        due(1, e.deny(3));
        // So also if it goes by a window.
        Ruleengine f = with("A1", "Au>Eu");
        f.step();
        f.window(4, 2, 0);
        due(1, f.pass(2));
        due(2, tell(f, "E1"));
        due(0, f.ofFact(2, 6));
        due(2, f.ofFact(2, 4));
        due(1, f.ofRule(0, 7));
        due(0, f.house(2));
    }

    // ---- 2. Rules

    private static void signs() {
        part = "2, signs";
        Ruleengine e = new Ruleengine();
        due("", e.typed());
        due(0, e.house(9));
        due(0, e.say(39, NONE, NONE, NONE, NONE, NONE));
        due(1, e.say(39, 39, 7, NONE, NONE, NONE));
        due(0, e.say(39, 39, 39, 39, 39, 39));
        due(0, e.say(38, 38, NONE, NONE, NONE, NONE));
        for (int code = 0; code <= 37; code++) {
            due(1, e.say(38, NONE, code, NONE, NONE, NONE));
            due(SIGNS.substring(code, code + 1), e.typed());
        }
        // Each of the six, and in their order.
        due(6, e.say(38, 10, 16, 32, 14, 16) + 1);
        due("Au>Eu", e.typed());
        due(6, e.say(NONE, NONE, NONE, NONE, NONE, 31));
        due("Au>Eu,", e.typed());
        for (int i = 0; i < 9; i++) {
            e.say(1, 2, 3, 4, 5, 6);
        }
        due(60, e.house(9));
        due("Au>Eu," + "123456".repeat(9), e.typed());
        due(60, e.say(NONE, NONE, NONE, NONE, NONE, NONE));
        refused('S', e, () -> e.say(0, NONE, NONE, NONE, NONE, NONE));
        refused('S', e, () -> e.say(NONE, NONE, NONE, NONE, NONE, 0));
        refused('S', e, () -> e.say(39, 0, 0, 39, NONE, NONE));
        refused('S', e, () -> e.say(0, 39, NONE, NONE, NONE, NONE));
        refused('S', e, () -> e.say(0, 38, NONE, NONE, NONE, NONE));
        refused('S', e, () -> e.say(0, 0, 39, 39, 39, 38));
        due(60, e.say(39, 9, 39, 8, 39, 7));
        due("Au>Eu," + "123456".repeat(8) + "123457", e.typed());
        due(59, e.say(39, NONE, NONE, NONE, NONE, NONE));
        refused('S', e, () -> e.say(1, 1, NONE, NONE, NONE, NONE));
        due(60, e.say(1, NONE, NONE, NONE, NONE, NONE));
        due(5, e.say(38, 1, 2, 3, 4, 5));
        due("12345", e.typed());
        Ruleengine f = new Ruleengine();
        for (int i = 0; i < 9; i++) {
            f.say(0, 0, 0, 0, 0, 0);
        }
        due(60, f.say(1, 2, 3, 4, 5, 6));
        due("0".repeat(54) + "123456", f.typed());
        due(55, f.say(39, 39, 39, 39, 39, NONE));
        refused('S', f, () -> f.say(1, 1, 1, 1, 1, 1));
        due(60, f.say(1, 1, 1, 1, 1, 39) + 1);
    }

    private static void fault(int due, String text) {
        Ruleengine e = new Ruleengine();
        type(e, text);
        due(text + ":" + due, text + ":" + e.fault());
        if (due != NONE) {
            due(text + ":" + (-100 - due), text + ":" + e.rule(0, 0, 0));
            due(false, e.isFit());
        }
    }

    private static void faults() {
        part = "2, faults";
        fault(0, "");
        String[] rules = {"A1>A1", "Buz,C_9,D0_w,Eu,Fyx>B09,Cuz,Du1x,.E5,.F99", "!A_,?B__,*C_1,#uD__1,+vwEw,u=v,0/9,z<x>-9,$0,$z,%,@0,@1,@2"};
        for (String rule : rules) {
            int begin = rule.indexOf('>');
            for (int length = 0; length < rule.length(); length++) {
                // A beginning that ends behind an act of it is a rule already.
                char next = rule.charAt(length);
                fault(length > begin && next == ',' ? NONE : length, rule.substring(0, length));
            }
            fault(NONE, rule);
            for (int sign = 0; sign < 38; sign++) {
                char behind = SIGNS.charAt(sign);
                fault(behind == ',' ? rule.length() + 1 : rule.length(), rule + behind);
            }
        }
        for (int kind = 0; kind <= 5; kind++) {
            String letter = SIGNS.substring(10 + kind, 11 + kind);
            String whole = letter + "123".substring(0, FIELDS[kind]);
            fault(whole.length(), whole + "1>%");
            fault(whole.length() - 1, whole.substring(0, whole.length() - 1) + ">%");
            fault(4 + whole.length(), "1=1>" + whole + "1");
            fault(3 + whole.length(), "1=1>" + whole.substring(0, whole.length() - 1));
            fault(3 + whole.length(), "1=1>" + whole.substring(0, whole.length() - 1) + ",%");
        }
    }

    /** Which signs may come behind a beginning of a rule, all of them tried. */
    private static void next(String beginning, String allowed) {
        for (int sign = 0; sign < SIGNS.length(); sign++) {
            char one = SIGNS.charAt(sign);
            Ruleengine e = new Ruleengine();
            type(e, beginning + one);
            String text = beginning + one + ":";
            boolean isAllowed = e.fault() == NONE || e.fault() == beginning.length() + 1;
            due(text + (allowed.indexOf(one) >= 0), text + isAllowed);
            if (!isAllowed) {
                due(text + beginning.length(), text + e.fault());
            }
        }
    }

    private static void nextSigns() {
        part = "2, which signs may follow";
        String digits = "0123456789";
        String letters = "ABCDEF";
        String variables = "uvwxyz";
        String condition = digits + letters + variables + "!?*#+";
        String act = letters + ".-$%@";
        String ends = ",>";
        next("", condition);
        next("A1,", condition);
        next("u=1,", condition);
        for (String atom : new String[] {"A", "B", "B1", "C_", "C", "D", "D1", "Duv", "E", "F", "Fz", "A1,E", "!A", "?Bu",
            "*D__", "#zE", "+uzF_"}) {
            next(atom, digits + variables + "_");
        }
        for (String whole : new String[] {"A1", "B__", "Cuu", "D123", "Ez", "F9_", "!A_", "?B11", "*Cu_", "#zDuvw", "+yzEz",
            "3=u", "z/3", "0<9", "A1,E1"}) {
            next(whole, ends);
        }
        for (String behind : new String[] {"!", "?", "*", "#u", "#z", "+uu", "+zu", "+uz"}) {
            next(behind, letters);
        }
        for (String behind : new String[] {"#", "+", "+u", "+z"}) {
            next(behind, variables);
        }
        for (String side : new String[] {"0", "9", "u", "z", "A1,5"}) {
            next(side, "=/<");
        }
        for (String test : new String[] {"0=", "9/", "u<", "z=", "A1,5="}) {
            next(test, digits + variables);
        }
        for (String arrow : new String[] {"A1>", "3=3>", "A1>%,", "A1>A1,", "A1>@0,"}) {
            next(arrow, act);
        }
        for (String atom : new String[] {"A1>A", "A1>B", "A1>Bu", "A1>D", "A1>D1", "A1>D1z", "A1>E", "A1>.F", "A1>.Fu",
            "A1>.C1", "A1>$", "A1>%,.E"}) {
            next(atom, digits + variables);
        }
        for (String whole : new String[] {"A1>A1", "A1>Bzz", "A1>D000", "A1>.E9", "A1>-0", "A1>-9", "A1>$z", "A1>$0", "A1>%",
            "A1>@2", "A1>%,%"}) {
            next(whole, ",");
        }
        next("A1>.", letters);
        next("A1>-", digits);
        next("A1>@", "012");
        // Sixty signs, just to the end of a condition, of an act; in the midst of them.
        fault(60, "A1,".repeat(19) + "B11");
        fault(60, "A1,".repeat(20));
        fault(60, "A1,".repeat(18) + "D12_>C");
        fault(60, "A1,".repeat(18) + "A1>A1,");
        fault(NONE, "A1,".repeat(18) + "A1>%,%");
        fault(59, "A1,".repeat(18) + "A1>A12");
        fault(59, "A1,".repeat(19) + "A11");
    }

    private static void fit(boolean due, String text) {
        Ruleengine e = new Ruleengine();
        type(e, text);
        due(text + ":" + NONE, text + ":" + e.fault());
        due(text + ":" + due, text + ":" + e.isFit());
        if (!due) {
            nothing(UNFIT, e, () -> e.rule(0, 0, 0));
        } else {
            due(text + ":" + true, text + ":" + (e.rule(0, 0, 0) >= 0));
            due(text, e.text(0));
        }
    }

    private static String many(String one, int count) {
        return (one + ",").repeat(count - 1) + one;
    }

    private static void unfit() {
        part = "2, unfit";
        String[] kinds = {"!A1", "?A1", "*A1", "#uA1", "+uvAv", "1=1"};
        for (String one : kinds) {
            fit(true, many(one, 5) + ">%");
            fit(false, many(one, 6) + ">%");
        }
        fit(true, many("A1", 3) + ",!A1,!A1>%");
        fit(false, many("A1", 3) + ",!A1,!A1,!A1>%");
        fit(false, "!A1,!A1,!A1,!A1,!A1,A1>%");
        fit(true, "!A1,!A1," + many("A1", 3) + ">%");
        fit(false, "!A1," + many("A1", 4) + ">%");
        fit(false, many("A1", 4) + ">%");
        fit(false, many("A1", 19) + ">%,%");
        String[] acts = {"A1", ".A1", "-0", "$1", "%", "@1"};
        for (String act : acts) {
            fit(true, "A1>" + many(act, 3));
            fit(false, "A1>" + many(act, 4));
        }
        fit(false, "A1>" + many("%", 20));
        // As long as one that is fit can be.
        fit(true, many("+uvDv__", 5) + ">" + many(".Duuu", 3));
        // A variable of a test: from conditions ahead, not from its own rule behind it.
        for (int v = 0; v < 6; v++) {
            String name = SIGNS.substring(16 + v, 17 + v);
            fit(true, "A" + name + "," + name + "=1>%");
            fit(true, "A" + name + ",1<" + name + ">%");
            fit(false, name + "=1,A" + name + ">%");
            fit(false, "1/" + name + ",A" + name + ">%");
            fit(false, "1=1>$" + name);
            fit(true, "A" + name + ">$" + name);
        }
        fit(false, "Au,u=v>%");
        fit(false, "Au,v=u>%");
        fit(true, "Buv,u=v>%");
        fit(true, "D_u_,u=u>%");
        fit(true, "D__u>Fuu");
        // In NOT, SOME, ALL no variable gets a value; in COUNT and SUM the first one alone.
        for (String sort : new String[] {"!", "?", "*"}) {
            fit(true, sort + "Au>%");
            fit(false, sort + "Au,u=1>%");
            fit(false, sort + "Au>Eu");
            fit(false, sort + "Au>.Eu");
            fit(false, sort + "Au>$u");
            fit(true, sort + "Au,Au>Eu");
        }
        fit(true, "#uAv,u=1>Eu,.Eu,$u");
        fit(false, "#uAv,v=1>%");
        fit(false, "#uAv>Ev");
        fit(true, "#uAu,u=1>Eu");
        fit(true, "+uvAv,u=1>Eu,.Eu,$u");
        fit(false, "+uvAv,v=1>%");
        fit(false, "+uvAv>.Ev");
        fit(false, "+uvBvw>$w");
        fit(true, "+uuAu,u=1>Eu");
        // The second variable of a sum is in its atom.
        fit(false, "+uvA_>%");
        fit(false, "+uvA5>%");
        fit(false, "+uvAu>%");
        fit(false, "Av,+uvAu>%");
        fit(false, "+uuAv>%");
        fit(true, "+uvB_v>%");
        fit(true, "+uvBv_>%");
        fit(true, "+uvD__v>%");
        fit(true, "+uvDvuv>%");
        fit(false, "+uvD_u_>%");
        // The digit of a take is below the number of its HAS.
        fit(false, "1=1>-0");
        fit(false, "!A1,?A1,*A1,#uA1,+uvAv>-0");
        fit(true, "!A1,?A1,A1>-0");
        fit(false, "!A1,?A1,A1>-1");
        fit(true, "A1,!A1,A1>-1");
        fit(false, "A1,!A1,A1>-2");
        fit(true, "A1,A1,A1>-2,-1,-0");
        fit(false, "A1,A1,A1>-3");
        fit(false, "A1,A1,A1>-9");
        fit(false, "A1,A1,A1>-0,-1,-3");
        Ruleengine e = new Ruleengine();
        due(false, e.isFit());
        type(e, "A1>");
        due(false, e.isFit());
    }

    private static void slots() {
        part = "2, slots";
        Ruleengine e = with("A1");
        for (int slot = 0; slot < 6; slot++) {
            int of = slot;
            due("", e.text(slot));
            refused('I', e, () -> e.drop(of));
            refused('I', e, () -> e.ofRule(of, 0));
            refused('I', e, () -> e.partials(of, 1));
            refused('I', e, () -> e.stuck(of));
            due(1, put(e, slot, -9 + 18 * (slot % 2), slot % 3, "Au>Eu"));
            refused('S', e, () -> e.rule(of, 0, 0));
            due(-9 + 18 * (slot % 2), e.ofRule(slot, 0));
            due(slot % 3, e.ofRule(slot, 1));
            due(slot + 1, e.house(7));
        }
        for (int slot : new int[] {-1, 6, Integer.MIN_VALUE, Integer.MAX_VALUE}) {
            refused('I', e, () -> e.rule(slot, 0, 0));
            refused('I', e, () -> e.drop(slot));
            refused('I', e, () -> e.text(slot));
            refused('I', e, () -> e.ofRule(slot, 0));
            refused('I', e, () -> e.partials(slot, 1));
            refused('I', e, () -> e.stuck(slot));
        }
        due(0, e.drop(5));
        due(5, e.house(7));
        for (int urgency : new int[] {-10, 10, Integer.MIN_VALUE, Integer.MAX_VALUE}) {
            refused('A', e, () -> e.rule(5, urgency, 0));
        }
        for (int module : new int[] {-1, 3, Integer.MIN_VALUE, Integer.MAX_VALUE}) {
            refused('A', e, () -> e.rule(5, 0, module));
        }
        due(1, e.rule(5, 9, 2));
        due(9, e.ofRule(5, 0));
        due(2, e.ofRule(5, 1));
        // A rule that cannot be put in leaves the slot free; what is typed stays.
        e.drop(0);
        type(e, "Au>E");
        nothing(-104, e, () -> e.rule(0, 0, 0));
        type(e, "Au>Ev");
        nothing(UNFIT, e, () -> e.rule(0, 0, 0));
        due("Au>Ev", e.typed());
        due("", e.text(0));
    }

    // ---- 3. Matches

    private static int holding(String facts, String rule) {
        Ruleengine e = with(facts, rule);
        due(true, e.isSound());
        return e.ofRule(0, 6);
    }

    private static void fitting() {
        part = "3, fitting";
        due(0, holding("", "A_>%"));
        due(1, holding("A1", "A_,A_,A_>%"));
        due("0:0,0,0", with("A1", "A_,A_,A_>%").match(0));
        due(8, holding("A1 A2", "A_,A_,A_>%"));
        due(4, holding("A1 A2", "Au,Av>%"));
        due(2, holding("A1 A2", "Au,Au>%"));
        Ruleengine e = crowd(16, "B__,B__,B__>$1");
        due(16, e.partials(0, 1));
        due(256, e.partials(0, 2));
        due(4096, e.partials(0, 3));
        due(4096, e.ofRule(0, 6));
        due(4096, e.house(2));
        due("0:0,0,15", e.match(0));
        due("0:0,0,0", e.match(4095));
        due("", e.match(4096));
        due("", e.match(Integer.MAX_VALUE));
        due(true, e.isSound());
        due(30, e.run(30, false));
        due(4066, e.house(2));
        due(30, e.ofRule(0, 7));
        due("0:0,15,15", e.match(0));
        due("0:1,0,15", e.match(1));
        // A digit, a value, any value; each in its own field and kind.
        due(1, holding("D123 D132 D213 C12 F12", "D123>%"));
        due(2, holding("D123 D132 D213", "D1__>%"));
        due(2, holding("D123 D132 D213", "D__3,D_3_>%"));
        due(1, holding("D123 C23 E1", "Eu,Duvw,Cvw>%"));
        due(0, holding("D123 C32 E1", "Eu,Duvw,Cvw>%"));
        due(0, holding("A1", "E1>%"));
        due(0, holding("B12 C12", "F__>%"));
        // Without a value ahead: the same in all fields in which it is.
        due(1, holding("B11 B12 B21", "Buu>%"));
        due(2, holding("D121 D122 D112 D221 D111", "Duvu>%"));
        due(3, holding("D121 D122 D112 D221 D111", "Duuv>%"));
        due(2, holding("D121 D122 D112 D221 D111", "Dvuu>%"));
        due("0:1", with("D121 D122 D112", "Dvuu>%").match(0));
        due("0:0", with("D121 D122 D112", "Duvu>%").match(0));
        due("0:2", with("D121 D122 D112", "Duuv>%").match(0));
        due(1, holding("D121 D122 D112 D221 D111", "Dzzz>%"));
        due(5, holding("D121 D122 D112 D221 D111", "Dzxy>%"));
        // With a value from the same condition's own fields behind it is the same, too.
        due(1, holding("A2 D121 D212 D222", "Au,Duvu,u/v>%"));
    }

    private static void conditions() {
        part = "3, conditions";
        // NOT: no fact fits.
        due(1, holding("", "!A1>%"));
        due(0, holding("A1", "!A1>%"));
        due(1, holding("A2", "!A1>%"));
        due(0, holding("A1 A2", "!A_>%"));
        due(1, holding("B12", "!Buu>%"));
        due(0, holding("B12 B22", "!Buu>%"));
        due(1, holding("A1 A2 B12", "Au,!Bu_>%"));
        // SOME: one or more, and one match all the same.
        due(0, holding("", "?A1>%"));
        due(1, holding("A1", "?A1>%"));
        due(1, holding("A1 A2 A3", "?A_>%"));
        due(0, holding("D112 D122", "?Duuu>%"));
        due(1, holding("D112 D222", "?Duuu>%"));
        // ALL: also if there are none.
        due(1, holding("", "*A1>%"));
        due(1, holding("A1", "*A1>%"));
        due(0, holding("A2", "*A1>%"));
        due(0, holding("A1 A2", "*A1>%"));
        due(1, holding("A1 A2", "*A_>%"));
        due(1, holding("C11 C22", "*Cuu>%"));
        due(0, holding("C11 C12", "*Cuu>%"));
        due(1, holding("E1 A1", "Eu,*Au>%"));
        due(0, holding("E1 A1 A2", "Eu,*Au>%"));
        due(1, holding("E1 B21", "Eu,*Au>%"));
        // COUNT: gets the number, or is so if that is the value ahead of it.
        due("0:;0", with("", "#uA_>%").match(0));
        due("0:;1", with("A5 B55", "#uA_>%").match(0));
        due("0:;16", crowd(16, "#uB__>%").match(0));
        due("0:;2", with("C11 C22 C12", "#vCuu>%").match(0));
        due(1, holding("E2 A1 A2", "Eu,#uA_>%"));
        due("0:0;2", with("E2 A1 A2", "Eu,#uA_>%").match(0));
        due(0, holding("E2 A1", "Eu,#uA_>%"));
        due(0, holding("E2 A1 A2 A3", "Eu,#uA_>%"));
        due(1, holding("E0", "Eu,#uA_>%"));
        due("0:;2;2", with("A1 A2 E3 E4", "#uA_,#uE_>%").match(0));
        due(0, holding("A1 A2 E3", "#uA_,#uE_>%"));
        due("0:;3", with("A1 A2 A3", "#uAu>%").match(0));
        due("0:1;1", with("A1 E1", "Eu,#uAu>%").match(0));
        due(0, holding("A2 E2", "Eu,#uAu>%"));
        // SUM likewise.
        due("0:;0", with("B12", "+uvAv>%").match(0));
        due("0:;45", with("A0 A1 A2 A3 A4 A5 A6 A7 A8 A9", "+uvAv>%").match(0));
        due("0:;3", with("C11 C22 C12", "+vuCuu>%").match(0));
        due("0:;7", with("D123 D124 D225", "+uvD12v>%").match(0));
        due("0:;6", with("D123 D124 D225", "+uvD_v_>%").match(0));
        due("0:;4", with("D123 D124 D225", "+uvDv__>%").match(0));
        due("0:;4", with("D121 D122 D222 D111", "+uvDv_v>%").match(0));
        due(1, holding("E3 A1 A2", "Eu,+uvAv>%"));
        due(0, holding("E4 A1 A2", "Eu,+uvAv>%"));
        due(1, holding("E0", "Eu,+uvAv>%"));
        due("0:;3", with("A1 A2", "+uuAu>%").match(0));
        due("0:0;2", with("E2 A2 A3", "Eu,+uuAu>%").match(0));
        due(0, holding("E2 A3", "Eu,+uuAu>%"));
        due("0:0;4", with("E2 B21 B22 B32", "Ev,+uvBv_>%").match(0));
        Ruleengine e = new Ruleengine();
        put(e, 0, "+uvDv__>$u");
        for (int i = 0; i < 16; i++) {
            e.tell(3, 9, i / 10, i % 10);
        }
        due("0:;144", e.match(0));
        due(0, e.step());
        due("144", e.written());
        due(1, e.house(3));
        due(0, e.house(2));
        due(true, e.isSound());
        // TEST: on both sides of each bound.
        for (int value = 0; value <= 9; value++) {
            due(value == 4 ? 1 : 0, holding("A" + value, "Au,u=4>%"));
            due(value != 4 ? 1 : 0, holding("A" + value, "Au,u/4>%"));
            due(value < 4 ? 1 : 0, holding("A" + value, "Au,u<4>%"));
            due(4 < value ? 1 : 0, holding("A" + value, "Au,4<u>%"));
        }
        due(1, holding("", "3=3>%"));
        due(0, holding("", "3/3>%"));
        due(0, holding("", "3<3>%"));
        due(1, holding("", "0<9>%"));
        due(0, holding("", "9<0>%"));
        due(6, holding("A1 A2 A3 A4", "Au,Av,u<v>%"));
        due(4, holding("A1 A2 A3 A4", "Au,Av,u=v>%"));
        due(12, holding("A1 A2 A3 A4", "Au,Av,u/v>%"));
        due(0, holding("A1", "Au,u<u>%"));
        // No other variable gets a value: each of these stands for any again.
        due(1, holding("B12 C33", "!Buu,?Cuu>%"));
        due(1, holding("B12 C33", "?Bu_,?Cu_>%"));
        due(0, holding("B12 C33", "Bu_,?Cu_>%"));
        due(1, holding("B12 A7", "?Bu_,Au>%"));
        due(1, holding("B12 A7", "*Bu_,Au>%"));
        due(1, holding("B12 A7", "#vBu_,Au>%"));
        due(2, holding("A1 A2", "+uvAv,Av>%"));
    }

    private static void aboveNine() {
        part = "3, above nine";
        String nine = "A8 A1";
        String ten = "A9 A1";
        due(1, holding(nine + " E9", "+uvAv,Eu>%"));
        due(0, holding(ten + " E9 E0 E1", "+uvAv,Eu>%"));
        due(1, holding(nine + " E9", "+uvAv,?Eu>%"));
        due(0, holding(ten + " E0 E1", "+uvAv,?Eu>%"));
        due(0, holding(nine + " E9", "+uvAv,!Eu>%"));
        due(1, holding(ten + " E0 E1", "+uvAv,!Eu>%"));
        due(1, holding(nine + " E9", "+uvAv,*Eu>%"));
        due(1, holding(ten, "+uvAv,*Eu>%"));
        due(0, holding(ten + " E0", "+uvAv,*Eu>%"));
        due("0:;10;0", with(ten + " E0 E1", "+uvAv,#wEu>%").match(0));
        due("0:;9;1", with(nine + " E9 E1", "+uvAv,#wEu>%").match(0));
        due("0:;10;0", with(ten + " F09 F19", "+uvAv,+wxFux>%").match(0));
        due("0:;9;4", with(nine + " F94 F14", "+uvAv,+wxFux>%").match(0));
        due("0:;10;0", with(ten + " F09 F19", "+uvAv,+wuFu_>%").match(0));
        due(0, holding(nine, "+uvAv,9<u>%"));
        due(1, holding(ten, "+uvAv,9<u>%"));
        due(1, holding(ten, "+uvAv,u/0>%"));
        due("0:;10", crowd(10, "#uB__,!Bu_,9<u>%").match(0));
        due(0, crowd(10, "#uB__,Bu_>%").ofRule(0, 6));
        // Put and told by the rest by 10, written whole.
        Ruleengine e = with("A9 A8 A3", "+uvAv>Eu,.Fuu,$u");
        e.step();
        due("A9 A8 A3 E0 F00", e.facts(NONE));
        due("20", e.written());
        Ruleengine f = with("A9", "+uvAv>Eu,.Fuu,$u");
        f.step();
        due("A9 E9 F99", f.facts(NONE));
        due("9", f.written());
        Ruleengine g = with("A9 A1", "+uvAv>D1u9,.Bu1,$u");
        g.step();
        due("A9 A1 D109 B01", g.facts(NONE));
        due("10", g.written());
    }

    private static void sameMatch() {
        part = "3, the same match";
        // Another number of a count is another match, with the same facts.
        Ruleengine e = with("A1", "Au,#vB__>Eu,$v");
        due(0, e.step());
        due("A1 E1", e.facts(NONE));
        due(NONE, e.step());
        due(2, tell(e, "B11"));
        due("A1 B11", e.facts(NONE));
        due(0, e.house(3));
        due("0:0;1", e.match(0));
        due(0, e.step());
        due("A1 B11 E1", e.facts(NONE));
        due(2, e.take(2));
        due("0:0;0", e.match(0));
        due(0, e.step());
        due("0 1 0", e.written());
        due(3, e.house(11));
        due(1, e.house(3));
        // Of a sum likewise; by other facts, if the sum is the same, it is the same match.
        Ruleengine f = with("B41", "+uvBv_>Eu");
        f.window(1, 0, 1);
        due(0, f.step());
        due(2, tell(f, "B42"));
        due("E4 B42", f.facts(NONE));
        due(1, f.house(3));
        due(NONE, f.step());
        tell(f, "B51");
        due("B51", f.facts(NONE));
        due("0:;5", f.match(0));
        // Another fact, though alike, is another match.
        Ruleengine g = with("A1", "Au>$u");
        g.step();
        due(1, g.take(0));
        due(0, g.house(3));
        tell(g, "A1");
        due("0:1", g.match(0));
        g.step();
        due("1 1", g.written());
        // Told again, it is the same fact, and the match is done still.
        tell(g, "A1");
        due(NONE, g.step());
        tell(g, "B11");
        due(NONE, g.step());
        // A rule that is put in anew has other matches.
        due(0, g.drop(0));
        due(1, g.rule(0, 0, 0));
        due(0, g.step());
        due(3, g.house(11));
        for (int slot = 1; slot < 6; slot++) {
            Ruleengine anew = new Ruleengine();
            put(anew, slot, "Au,Av>Fuv");
            tell(anew, "A1 A2");
            due(4, anew.run(30, false));
            due(4, anew.ofRule(slot, 8));
            due(4, anew.drop(slot));
            due(0, anew.house(3));
            due(4, anew.rule(slot, 0, 0));
            due(4, anew.house(2));
            due(0, anew.ofRule(slot, 7));
            due(4, anew.run(30, false));
            anew.undo();
            anew.undo();
            anew.undo();
            due(4, anew.ofRule(slot, 7));
            due(0, anew.house(2));
            due(4, anew.ofRule(slot, 8));
        }
        // What holds no more is done no more, and done again when it holds again.
        Ruleengine h = with("A1", "Au,!Buu>Eu");
        h.step();
        tell(h, "B12");
        due(1, h.house(3));
        due(3, tell(h, "B11"));
        due("A1 B12", h.facts(NONE).substring(0, 6));
        due(0, h.house(3));
        due(0, h.house(2));
        due(1, h.take(3));
        due(1, h.house(2));
    }

    private static void partialsAndNodes() {
        part = "3, partial matches and nodes";
        Ruleengine e = with("A1 A2 A3 B21", "!C__,Au,Bv_,u<v,?Au>%");
        int[] partials = {1, 3, 3, 1, 1};
        for (int k = 1; k <= 5; k++) {
            due(partials[k - 1], e.partials(0, k));
        }
        due(5, e.stuck(0));
        tell(e, "C11");
        for (int k = 1; k <= 5; k++) {
            due(0, e.partials(0, k));
        }
        due(0, e.stuck(0));
        for (int k : new int[] {0, 6, -1, Integer.MIN_VALUE, Integer.MAX_VALUE}) {
            refused('A', e, () -> e.partials(0, k));
        }
        Ruleengine one = with("A1", "Au>%");
        due(1, one.partials(0, 1));
        due(1, one.stuck(0));
        refused('A', one, () -> one.partials(0, 2));
        one.take(0);
        due(0, one.partials(0, 1));
        due(0, one.stuck(0));
        Ruleengine f = with("A1 A2", "Au,#vB__,u=v,A_,A_>%");
        due(2, f.partials(0, 2));
        due(0, f.partials(0, 3));
        due(0, f.partials(0, 5));
        due(2, f.stuck(0));
        tell(f, "B11");
        due(1, f.partials(0, 3));
        due(2, f.partials(0, 4));
        due(4, f.partials(0, 5));
        due(5, f.stuck(0));
        // What is done is a match, too.
        f.run(2, false);
        due(4, f.partials(0, 5));
        // NODES: as they were typed.
        due(0, new Ruleengine().house(8));
        due(1, with("", "A1>%").house(8));
        due(1, with("", "A1>%", "A1>$1,@2").house(8));
        due(2, with("", "Au>%", "Av>%").house(8));
        due(2, with("", "B1_>%", "B12>%").house(8));
        due(3, with("", "A1,A2>%", "A1,A2,A3>%", "A1>%").house(8));
        due(4, with("", "A1,A2>%", "A2,A1>%").house(8));
        due(3, with("", "A1,A2>%", "A1,A3>%").house(8));
        due(5, with("", "A1,A2,A3>%", "A1,A4,A3>%").house(8));
        due(2, with("", "A1,A1>%", "A1>%").house(8));
        Ruleengine many = new Ruleengine();
        for (int slot = 0; slot < 6; slot++) {
            put(many, slot, slot + "=1,1=1,2=2,3=3,4=4>%");
            due(5 * slot + 5, many.house(8));
        }
        many.drop(3);
        due(25, many.house(8));
        Ruleengine same = new Ruleengine();
        for (int slot = 0; slot < 6; slot++) {
            put(same, slot, slot, 0, "1=1,1=1,2=2,3=3,4=4>%");
            due(5, same.house(8));
        }
        same.drop(0);
        due(5, same.house(8));
    }

    private static void agendaOrder() {
        part = "3, the agenda";
        Ruleengine e = new Ruleengine();
        int[] urgency = {-9, 0, 9, 8, -8, 1};
        for (int slot = 0; slot < 6; slot++) {
            put(e, slot, urgency[slot], slot % 3, "Au>%");
        }
        tell(e, "A1 A2");
        int[] order = {2, 3, 5, 1, 4, 0};
        for (int n = 0; n < 12; n++) {
            due(order[n / 2] + ":" + (1 - n % 2), e.match(n));
        }
        due("", e.match(12));
        for (int nth : new int[] {-1, Integer.MIN_VALUE}) {
            refused('A', e, () -> e.match(nth));
        }
        // Newness goes ahead of the slot; none comes behind the fact 0, and by slots among themselves.
        Ruleengine f = with("A1 B11", "1=1>%", "Au>%", "#uA_>%", "Au,Bvw>%", "Bvw,Au>%", "Au>%");
        String[] all = {"3:0,1", "4:1,0", "1:0", "5:0", "0:", "2:;1", ""};
        for (int n = 0; n < all.length; n++) {
            due(all[n], f.match(n));
        }
        // The greatest and the least urgency, the newest and the oldest of sixteen.
        Ruleengine full = new Ruleengine();
        put(full, 0, -9, 0, "B15>$1");
        put(full, 1, 9, 0, "B00>$2");
        put(full, 2, -9, 0, "B00>$3");
        put(full, 3, 9, 0, "1=1>$4");
        put(full, 4, 9, 0, "B15>$5");
        for (int i = 0; i < 16; i++) {
            full.tell(1, i / 10, i % 10, 0);
        }
        String[] sixteen = {"4:15", "1:0", "3:", "0:15", "2:0", ""};
        for (int n = 0; n < sixteen.length; n++) {
            due(sixteen[n], full.match(n));
        }
        due(5, full.run(30, false));
        due("5 2 4 1 3", full.written());
        // The first HAS, the second, the third: by numbers, wherever the facts are held.
        Ruleengine g = with("A1 A2 A3", "Au,Av,Aw>%");
        g.take(0);
        due(3, tell(g, "A9"));
        int[] facts = {1, 2, 3};
        List<int[]> rows = new ArrayList<>();
        for (int a : facts) {
            for (int b : facts) {
                for (int c : facts) {
                    rows.add(new int[] {a, b, c});
                }
            }
        }
        rows.sort((x, y) -> {
            int newness = Arrays.stream(y).max().getAsInt() - Arrays.stream(x).max().getAsInt();
            return newness != 0 ? newness : Arrays.compare(x, y);
        });
        for (int n = 0; n < 27; n++) {
            int[] row = rows.get(n);
            due("0:" + row[0] + "," + row[1] + "," + row[2], g.match(n));
        }
        due("", g.match(27));
        // What is done is not on it.
        g.step();
        due("0:1,2,3", g.match(0));
        due("0:1,3,1", g.match(1));
        due("0:1,1,1", g.match(25));
        due("", g.match(26));
        due(26, g.house(2));
        due(1, g.house(3));
    }

    // ---- 4. What is done

    private static void isStack(Ruleengine e, int size, int top) {
        due(size + " " + top, e.house(4) + " " + e.house(5));
    }

    private static void steps() {
        part = "4, steps";
        Ruleengine e = new Ruleengine();
        isStack(e, 1, 0);
        put(e, 0, 0, 2, "Au>$u");
        tell(e, "A1");
        nothing(NONE, e, e::step);
        e.focus(1);
        nothing(NONE, e, e::step);
        nothing(0, e, () -> e.run(30, false));
        isStack(e, 2, 1);
        e.focus(2);
        due(0, e.step());
        isStack(e, 3, 2);
        nothing(NONE, e, e::step);
        isStack(e, 3, 2);
        // The top goes off only as long as it has none, and the last one never.
        Ruleengine f = new Ruleengine();
        put(f, 0, 0, 0, "Au>$u");
        put(f, 1, 0, 1, "A_,Eu>$u");
        tell(f, "A1 E5 E6");
        f.focus(1);
        f.focus(2);
        f.focus(0);
        f.focus(2);
        isStack(f, 5, 2);
        due(0, f.step());
        isStack(f, 4, 0);
        due(1, f.step());
        isStack(f, 2, 1);
        due(1, f.step());
        isStack(f, 2, 1);
        due("1 6 5", f.written());
        nothing(NONE, f, f::step);
        tell(f, "A2");
        f.drop(1);
        due(0, f.step());
        isStack(f, 1, 0);
        due(NONE, f.step());
        // In a run, too: the last step, which finds none, leaves it as it was.
        Ruleengine g = new Ruleengine();
        put(g, 0, 0, 0, "A1>$1");
        put(g, 1, 0, 1, "A1>$2");
        put(g, 2, 0, 2, "A1>$3");
        tell(g, "A1");
        g.focus(2);
        g.focus(1);
        due(2, g.run(2, false));
        due("2 3", g.written());
        isStack(g, 2, 2);
        due(1, g.run(2, false));
        due("2 3 1", g.written());
        isStack(g, 1, 0);
        g.undo();
        isStack(g, 2, 2);
        g.drop(0);
        nothing(0, g, () -> g.run(30, false));
        isStack(g, 2, 2);
        // It is the first on the agenda of such a rule, not the first of all.
        Ruleengine h = new Ruleengine();
        put(h, 0, 9, 1, "Au>$9");
        put(h, 1, -9, 0, "Au>$u");
        tell(h, "A1 A2");
        due(1, h.step());
        due("2", h.written());
        due("0:1", h.match(0));
        due("1:0", h.match(2));
    }

    private static void puts() {
        part = "4, PUT";
        // Only if the match is done still.
        Ruleengine e = with("A1", "!E1>E1,F11,$5");
        due(0, e.step());
        due("A1", e.facts(NONE));
        due("5", e.written());
        due(2, e.house(1));
        due(0, e.house(3));
        due(1, e.house(2));
        due(1, e.house(11));
        Ruleengine f = with("E1 A1", "#uE_,A1>.E5,F11");
        f.step();
        due("E1 A1 E5", f.facts(NONE));
        due(0, f.house(3));
        Ruleengine g = with("A1", "A1>-0,E1,.F11");
        g.step();
        due("F11", g.facts(NONE));
        due(2, g.house(1));
        // What goes by a window does so ahead of settling: the count is as before.
        Ruleengine h = with("E1 A1", "#uE_,A1>.E5,F11");
        h.window(4, 0, 1);
        h.step();
        due("A1 E5 F11", h.facts(NONE));
        due(1, h.house(3));
        due("F11(0 A1!)", h.why(3, 1));
        // What stands does not come, but has one more reason; one match is one reason.
        Ruleengine k = with("A1 A2 E1", "Au>E1,E1");
        due(0, k.step());
        due(1, k.ofFact(2, 6));
        due(0, k.step());
        due(2, k.ofFact(2, 6));
        due(1, k.ofFact(2, 5));
        due(1, k.ofRule(0, 8));
        due(3, k.house(1));
        // As the sixteenth it comes, as the seventeenth nothing is done; the match is done all the same.
        Ruleengine m = crowd(15, "B00>A1,A2,$1");
        due(0, m.step());
        due("A1", m.facts(0));
        due("1", m.written());
        due(16, m.house(0));
        due(16, m.house(1));
        due(1, m.ofRule(0, 8));
        due(1, m.house(3));
        m.take(5);
        nothing(NONE, m, m::step);
        due(16, tell(m, "A2"));
        due(0, m.ofFact(16, 6));
        Ruleengine n = crowd(16, "B00>A2,B01");
        n.window(1, 0, 16);
        due(0, n.step());
        due(1, n.ofFact(1, 6));
        due(0, n.deny(1));
        due(16, n.house(0));
        Ruleengine o = crowd(16, "B00>B99");
        o.window(1, 0, 16);
        o.step();
        due(NONE, find(o, "B99"));
        due(0, find(o, "B00"));
        // What comes by it may drive out another one, or the fact by which it came.
        Ruleengine p = crowd(3, "B02>B99");
        p.window(1, 0, 3);
        p.step();
        due("B01 B02 B99", p.facts(NONE));
        Ruleengine q = crowd(3, "B00>B99,$1");
        q.window(1, 0, 3);
        q.step();
        due("B01 B02", q.facts(NONE));
        due("1", q.written());
        due(4, q.house(1));
        due(0, q.house(3));
    }

    private static void tells() {
        part = "4, TELL";
        Ruleengine e = with("A1", "Au>.Eu");
        due(0, e.step());
        due(1, e.ofFact(1, 5));
        due(0, e.ofFact(1, 6));
        due(0, e.ofRule(0, 8));
        due(2, e.house(10) - 1);
        due(1, e.take(0));
        due("E1", e.facts(NONE));
        Ruleengine f = with("A1", "Au>Eu", "Eu>.Eu");
        f.run(2, false);
        due(1, f.ofFact(1, 5));
        due(1, f.ofFact(1, 6));
        due(2, f.house(1));
        due(1, f.deny(0));
        due("E1", f.facts(NONE));
        // Nothing, if that is full; what stands is told all the same.
        Ruleengine g = crowd(16, "B00>.A1,.B01,$3");
        due(0, g.step());
        due("", g.facts(0));
        due("3", g.written());
        due(16, g.house(1));
        due(1, g.house(3));
        Ruleengine h = crowd(15, "B00>.A1,.A2");
        h.step();
        due("A1", h.facts(0));
        Ruleengine k = crowd(14, "B00>A1", "C00>.A1,.A2");
        k.step();
        due(0, k.ofFact(14, 5));
        tell(k, "C00");
        due(16, k.house(0));
        due(1, k.step());
        due(1, k.ofFact(14, 5));
        due("A1", k.facts(0));
        Ruleengine full = crowd(16, "B00>.B99,$1");
        full.window(1, 0, 16);
        full.step();
        due(NONE, find(full, "B99"));
        due("1", full.written());
        // The window of its kind.
        Ruleengine m = with("A1 E1 E2", "Au>.E9");
        m.window(4, 0, 2);
        m.step();
        due("A1 E2 E9", m.facts(NONE));
    }

    private static void takes() {
        part = "4, TAKE";
        Ruleengine e = with("A1 A2 A3", "Au,Av,Aw,u<v,v<w>-2,$w,-0");
        e.step();
        due("A2", e.facts(NONE));
        due("3", e.written());
        Ruleengine all = with("A1 B22 C33", "Au,Buv,Cvw>%", "A_,B__,C__>-2,-0,-1");
        all.step();
        due("", all.facts(NONE));
        Ruleengine f = with("A1 A2", "Au,Av,u<v>-1,-1,$v");
        f.step();
        due("A1", f.facts(NONE));
        due("2", f.written());
        // One that is alike, but came later, is another one.
        Ruleengine g = with("A1", "Au>-0,.Au,-0");
        g.step();
        due("A1", g.facts(NONE));
        due(1, find(g, "A1"));
        due("0:1", g.match(0));
        // What else goes by it does so ahead of the next act.
        Ruleengine h = crowd(14, "Au>Eu", "A1,?E1>-0,.C11,.C22");
        tell(h, "A1");
        due(0, h.step());
        due(16, h.house(0));
        due(1, h.step());
        due("C11 C22", h.facts(2));
        due("", h.facts(0) + h.facts(4));
        due(16, h.house(0));
        // A take of a match that is done no more.
        Ruleengine k = with("A1 A2", "A1,A2>-0,-1");
        due(0, k.step());
        due("", k.facts(NONE));
        due(0, k.house(3));
        // What is told and has reasons goes, too.
        Ruleengine m = new Ruleengine();
        put(m, 0, 1, 0, "Au>Eu");
        put(m, 1, 0, 0, "E1>-0");
        tell(m, "A1 E1");
        m.run(30, false);
        due("A1", m.facts(NONE));
        due(2, m.house(11));
        due(1, m.house(3));
    }

    private static void writes() {
        part = "4, WRITE";
        Ruleengine e = with("A1 A2 A3", "Au>$u,$0,$9");
        due("", e.written());
        e.step();
        due("3 0 9", e.written());
        due(2, e.run(30, false));
        due("3 0 9 2 0 9 1 0 9", e.written());
        put(e, 1, "Eu>$u");
        tell(e, "E4");
        e.step();
        tell(e, "E5");
        e.step();
        tell(e, "E6");
        e.step();
        due("3 0 9 2 0 9 1 0 9 4 5 6", e.written());
        tell(e, "E7");
        e.step();
        due("0 9 2 0 9 1 0 9 4 5 6 7", e.written());
        e.undo();
        due("3 0 9 2 0 9 1 0 9 4 5 6", e.written());
        e.step();
        tell(e, "A8");
        e.step();
        due("0 9 1 0 9 4 5 6 7 8 0 9", e.written());
        Ruleengine f = crowd(16, "#uB__>$u,$u,$0");
        f.step();
        due("16 16 0", f.written());
    }

    private static void stops() {
        part = "4, STOP";
        Ruleengine e = with("A1 A2", "Au>%,$u,Eu");
        due(1, e.run(30, false));
        due("2", e.written());
        due("A1 A2 E2", e.facts(NONE));
        due(0, e.step());
        due("2 1", e.written());
        nothing(0, e, () -> e.run(30, false));
        Ruleengine f = with("A1", "Au>%");
        due(1, f.run(1, false));
        nothing(0, f, () -> f.run(1, false));
        tell(f, "A2");
        due(1, f.run(30, true));
        for (boolean isByLayers : new boolean[] {false, true}) {
            Ruleengine g = with("A1 A2 A3", "Au>$u", "A2>%");
            due(3, g.run(30, isByLayers));
            due("3 2", g.written());
            due(1, g.run(30, isByLayers));
            due("3 2 1", g.written());
            // Just so many as were asked for, with the stop in the last one.
            Ruleengine h = with("A1 A2 A3", "Au>$u", "A2>%");
            due(2, h.run(2, isByLayers));
            due(1, h.run(1, isByLayers));
            due("3 2", h.written());
            due(1, h.run(30, isByLayers));
        }
        // A stop of a step stops no run; one of a match that is done no more does.
        Ruleengine k = with("A1 A2 A3", "A3>%", "Au>$u");
        due(0, k.step());
        due(3, k.run(30, false));
        Ruleengine m = new Ruleengine();
        put(m, 0, 1, 0, "A1>-0,%");
        put(m, 1, 0, 0, "Au>$u");
        tell(m, "A1 A2");
        due(1, m.run(30, false));
        due("", m.written());
        due(1, m.run(30, false));
    }

    private static void focuses() {
        part = "4, FOCUS";
        String[] rules = {"A1>@0", "A1>@1", "A1>@1,@1,@2", "A1>@0,@1,@0", "A1>@1,@2,@1"};
        int[] sizes = {1, 2, 3, 3, 4};
        int[] tops = {0, 1, 2, 0, 1};
        for (int i = 0; i < rules.length; i++) {
            Ruleengine e = with("A1", rules[i]);
            due(0, e.step());
            isStack(e, sizes[i], tops[i]);
        }
        // With four one more comes, with five none.
        Ruleengine f = new Ruleengine();
        put(f, 0, 0, 1, "A1>@2,@0");
        tell(f, "A1");
        f.focus(1);
        f.focus(0);
        f.focus(1);
        isStack(f, 4, 1);
        due(0, f.step());
        isStack(f, 5, 2);
        f.undo();
        f.focus(2);
        isStack(f, 5, 2);
        due(0, f.step());
        isStack(f, 5, 2);
        Ruleengine g = new Ruleengine();
        put(g, 0, 0, 1, "A1>@0,@2");
        tell(g, "A1");
        g.focus(1);
        g.focus(0);
        g.focus(2);
        g.focus(1);
        due(0, g.step());
        isStack(g, 5, 1);
        refused('S', g, () -> g.focus(0));
        refused('S', g, () -> g.focus(1));
        refused('A', g, () -> g.focus(3));
        // What went off for the match has made room.
        Ruleengine h = with("A1", "A1>@2,@1");
        h.focus(1);
        h.focus(2);
        h.focus(1);
        h.focus(2);
        due(0, h.step());
        isStack(h, 3, 1);
        // By layers the stack does not matter, but focus does what it says.
        Ruleengine k = new Ruleengine();
        put(k, 0, 0, 2, "A1>@1");
        tell(k, "A1");
        due(1, k.run(1, true));
        isStack(k, 2, 1);
    }

    private static void settling() {
        part = "4, settling";
        // Round by round, till none went.
        Ruleengine e = with("A1", "A1>E1", "?E1>C11", "?C11>D111", "?D111>F11");
        due(4, e.run(30, false));
        due("A1 E1 C11 D111 F11", e.facts(NONE));
        due(5, e.take(0));
        due(0, e.house(3));
        due("", e.facts(NONE));
        // In one round all at once: what is founded on those that go is not counted for another.
        Ruleengine f = with("A1", "Au>Eu", "Eu>Fuu", "Fuu>Duuu");
        f.run(30, false);
        due(4, f.deny(0));
        // In the first round a match that holds still is a reason still; only then do facts go.
        Ruleengine g = with("A1 B11", "Au>Eu", "?E1,?B11>C11", "?C11,?B11>D111");
        due(3, g.run(30, false));
        due(3, g.take(1));
        due("A1 E1", g.facts(NONE));
        due(1, g.house(3));
        // What went lets a match hold that was done before: it is done no more.
        Ruleengine h = with("A1", "Au>Eu", "Au,!E1>F11");
        h.step();
        due("", h.match(0));
        due(1, h.take(1));
        due("1:0", h.match(0));
        due(1, h.step());
        due(3, tell(h, "E1"));
        due("A1 E1", h.facts(NONE));
        // Behind each call that lets facts come or go, or changes rules.
        Ruleengine k = with("A1", "Au,!Bu_>Eu");
        k.step();
        due(2, tell(k, "B10"));
        due("A1 B10", k.facts(NONE));
        Ruleengine m = with("A1 B10", "Au,?B__>Eu");
        m.step();
        due(0, m.window(1, 3, 0));
        due(0, m.pass(2));
        due(2, m.pass(1));
        due("A1", m.facts(NONE));
        m.undo();
        due("A1 B10 E1", m.facts(NONE));
        due(2, m.window(1, 2, 0));
        m.undo();
        due(2, m.take(1));
        m.undo();
        due(1, m.drop(0));
        m.undo();
        due(2, m.deny(0));
        due("B10", m.facts(NONE));
        // A rule that is put in lets nothing go.
        due(0, put(m, 1, "!B10>E5"));
        due("B10", m.facts(NONE));
    }

    private static void founded() {
        part = "4, founded";
        Ruleengine e = with("E1", "Eu>Eu");
        e.step();
        due(1, e.ofFact(0, 6));
        due(1, e.deny(0));
        due("", e.facts(NONE));
        Ruleengine f = with("E1 F11", "Eu>Fuu", "Fuv>Eu");
        f.run(2, false);
        due(0, f.deny(0));
        due(1, f.ofFact(0, 7));
        refused('S', f, () -> f.deny(0));
        due(2, f.deny(1));
        // A ring of three, and one reason from outside it.
        Ruleengine g = with("A1", "Au>Eu", "Eu>Fuu", "Fuu>Cuu", "Cuu>Eu");
        due(4, g.run(30, false));
        due(2, g.ofFact(1, 6));
        due(4, g.take(0));
        // A reason of which one fact is not founded is none.
        Ruleengine h = with("A1 B11", "Au>Eu", "Eu,Bvw>Cvw");
        h.run(30, false);
        due("A1 B11 E1 C11", h.facts(NONE));
        due(3, h.take(0));
        due("B11", h.facts(NONE));
        // One without facts is founded, as long as it holds.
        Ruleengine k = with("", "!A1>E1");
        k.step();
        due("E1", k.facts(NONE));
        tell(k, "A2");
        due("E1 A2", k.facts(NONE));
        tell(k, "A1");
        due("A2 A1", k.facts(NONE));
        // One more reason, or being told, is enough.
        Ruleengine m = with("A1 A2", "A_>E1");
        m.run(30, false);
        due(1, m.take(0));
        due("A2 E1", m.facts(NONE));
        tell(m, "E1");
        due(1, m.take(1));
        due(0, m.ofFact(2, 6));
        due(1, m.deny(2));
    }

    private static void ranks() {
        part = "4, ranks";
        Ruleengine e = with("A1", "Au>Eu", "Eu>Fuu", "Fuu>Duuu", "Duuu>Cuu", "Au,Cuv>Buv");
        due(5, e.run(30, false));
        for (int fact = 0; fact < 6; fact++) {
            due(fact, e.ofFact(fact, 7));
        }
        // Told it is 0, whatever reasons it has; told no more it has that of its reasons.
        tell(e, "D111");
        due(0, e.ofFact(3, 7));
        due(1, e.ofFact(4, 7));
        due(2, e.ofFact(5, 7));
        due(0, e.deny(3));
        due(3, e.ofFact(3, 7));
        due(5, e.ofFact(5, 7));
        // The least of its reasons; of each reason the greatest of its facts.
        Ruleengine f = with("A1", "Au>Eu", "Eu>Fuu", "Fuu,Au>C11", "Eu>C11");
        due(4, f.run(30, false));
        due(2, f.ofFact(find(f, "C11"), 7));
        due(2, f.ofFact(find(f, "C11"), 6));
        f.drop(3);
        due(3, f.ofFact(find(f, "C11"), 7));
        due(1, f.ofFact(find(f, "C11"), 6));
        // A reason without facts.
        Ruleengine g = with("A1", "!B__>E1", "?A1>F11", "F11>C11", "A1>C11");
        g.run(30, false);
        due(1, g.ofFact(find(g, "E1"), 7));
        due(1, g.ofFact(find(g, "F11"), 7));
        due(1, g.ofFact(find(g, "C11"), 7));
        g.drop(3);
        due(2, g.ofFact(find(g, "C11"), 7));
        // As long a chain as can stand: sixteen facts, of which none is told.
        Ruleengine chain = with("", "Duvw>Dvw1", "!A1>D234", "D111>D567", "D711>D089", "D911>D645", "D511>D326");
        due(21, chain.run(30, false));
        String facts = "D234 D341 D411 D111 D567 D671 D711 D089 D891 D911 D645 D451 D511 D326 D261 D611";
        int rank = 0;
        for (String fact : facts.split(" ")) {
            rank++;
            due(fact + " " + rank, fact + " " + chain.ofFact(find(chain, fact), 7));
        }
        due("D611(0 D261(0 D326(5 D511(0 D451))))", chain.why(find(chain, "D611"), 4));
        due(true, chain.isSound());
        due(FULL, tell(chain, "A1"));
        due(16, chain.drop(1));
        due("", chain.facts(NONE));
        chain.undo();
        due(12, chain.drop(2));
        due("D234 D341 D411 D111", chain.facts(NONE));
        Ruleengine h = new Ruleengine();
        String next = "1234567890";
        for (int slot = 0; slot < 5; slot++) {
            put(h, slot, "E" + slot + ">E" + next.charAt(slot));
        }
        tell(h, "E0");
        due(5, h.run(30, false));
        due(5, h.ofFact(5, 7));
        Ruleengine k = new Ruleengine();
        put(k, 0, "#uA_,u<9>Eu");
        put(k, 1, "Eu,u<9>Fuu");
        put(k, 2, "Fuv,Eu>Duuv");
        due(3, k.run(30, false));
        due("E0 F00 D000", k.facts(NONE));
        due(1, k.ofFact(0, 7));
        due(2, k.ofFact(1, 7));
        due(3, k.ofFact(2, 7));
    }

    // ---- 5. Layers, what could be

    private static String layersOf(Ruleengine e) {
        StringBuilder text = new StringBuilder();
        for (int kind = 0; kind <= 5; kind++) {
            text.append(kind > 0 ? " " : "").append(e.layer(kind));
        }
        text.append(" :");
        for (int slot = 0; slot < 6; slot++) {
            if (!e.text(slot).isEmpty()) {
                text.append(' ').append(e.ofRule(slot, 5));
            }
        }
        return text.toString();
    }

    private static void layers() {
        part = "5, layers";
        String none = "-1 -1 -1 -1 -1 -1 :";
        due("0 0 0 0 0 0 :", layersOf(new Ruleengine()));
        for (String above : new String[] {"!A_", "*A_", "#uA_", "+uvAv"}) {
            due("0 1 0 0 0 0 : 1", layersOf(with("", above + ">B11")));
            due("0 1 0 0 0 0 : 1", layersOf(with("", above + ">.B11")));
            due("0 1 0 0 0 1 : 1", layersOf(with("", above + ">F11,$1,.B11")));
            due("0 0 0 0 0 0 : 1", layersOf(with("", above + ",B__>-0,$1,%")));
            due("0 0 0 0 0 0 : 1", layersOf(with("", above + ",A_>-0")));
            due(none + " -1", layersOf(with("", above + ">A1")));
            due(none + " -1", layersOf(with("", above + ">$1,.A1")));
            due(none + " -1 -1", layersOf(with("", above + ">E1", "E_>A1")));
            due(none + " -1 -1", layersOf(with("", above + ">E1", "?E_>.A1")));
            due(none + " -1 -1", layersOf(with("", "E_>A1", above + ">.E1")));
        }
        for (String at : new String[] {"A_", "?A_"}) {
            due("0 0 0 0 0 0 : 0", layersOf(with("", at + ">B11")));
            due("0 0 0 0 0 0 : 0", layersOf(with("", at + ">A1")));
            due("0 0 0 0 0 0 : 0 0", layersOf(with("", at + ">E1", "E_>.A1")));
            due("0 0 0 0 1 0 : 1 1", layersOf(with("", "!B__>E1", at.replace('A', 'E') + ">$1")));
        }
        due("0 0 0 0 0 0 : 0", layersOf(with("", "1=1>A1")));
        // The greatest of all that a rule needs, of all that put a kind.
        due("0 1 2 2 1 0 : 1 2 0 2", layersOf(with("", "!A_>B11,E1", "A_,!B__>C11", "A_>C11,B11", "E_,C__>D111")));
        due("0 1 2 3 4 5 : 1 2 3 4 5 6",
            layersOf(with("", "!A_>B11", "*B__>C11", "#uC__>D111", "+uvDv__>E1", "!E_>F11", "!F__>$1")));
        due("5 4 3 2 1 0 : 6 5 4 3 2 1",
            layersOf(with("", "!A_>$1", "!B__>A1", "!C__>B11", "!D___>C11", "!E_>D111", "!F__>E1")));
        // A ring takes them from all, also from those that are not in it.
        Ruleengine e = with("A1 B11", "!B__>C11", "!C__>E1", "E_>D111");
        due("0 0 1 2 2 0 : 1 2 2", layersOf(e));
        put(e, 3, "D___>.B11");
        due(none + " -1 -1 -1 -1", layersOf(e));
        nothing(RING, e, () -> e.run(30, true));
        nothing(RING, e, () -> e.run(1, true));
        refused('A', e, () -> e.run(0, true));
        refused('A', e, () -> e.run(31, true));
        e.drop(2);
        due("0 0 1 0 2 0 : 1 2 0", layersOf(e));
        e.undo();
        due(none + " -1 -1 -1 -1", layersOf(e));
        e.undo();
        due("0 0 1 2 2 0 : 1 2 2", layersOf(e));
        for (int kind : new int[] {-1, 6, Integer.MIN_VALUE, Integer.MAX_VALUE}) {
            refused('A', e, () -> e.layer(kind));
        }
        Ruleengine six = with("", "!F__,!A9>$6", "!E_,!A9>F11", "!D___,!A9>E1", "!C__,!A9>D111", "!B__,!A9>C11", "!A_>B11");
        due("0 1 2 3 4 5 : 6 5 4 3 2 1", layersOf(six));
        due(3, six.run(30, true));
        due("B11 D111 F11", six.facts(NONE));
        tell(six, "E0");
        due("B11 D111 E0", six.facts(NONE));
        due(1, six.run(30, true));
        due("6", six.written());
        six.undo();
        tell(six, "C00");
        due("B11 E0 C00", six.facts(NONE));
        due(2, six.run(30, true));
        due("B11 E0 C00 E1", six.facts(NONE));
        due("6", six.written());
        // A run by layers: the least layer that has one, whatever urgency and module.
        Ruleengine f = new Ruleengine();
        put(f, 0, 9, 0, "!C__,!E9>$1");
        put(f, 1, -9, 2, "Au>Cuu,$2");
        put(f, 2, 5, 1, "#uC__>$3");
        tell(f, "A1 A2");
        due(2, f.run(2, true));
        due("2 2", f.written());
        due(1, f.run(30, true));
        due("2 2 3", f.written());
        tell(f, "A3");
        due(2, f.run(30, true));
        due("2 2 3 2 3", f.written());
        isStack(f, 1, 0);
        nothing(0, f, () -> f.run(30, true));
    }

    private static void coulds() {
        part = "5, could be";
        Ruleengine e = with("A1", "Au>Eu", "Eu>Fuu", "Fuu>Duuu", "Duuu>Cuu");
        int[] first = {1, 2, 3, 4};
        int[] kinds = {4, 5, 3, 2};
        for (int i = 0; i < 4; i++) {
            for (int rounds = 0; rounds <= 3; rounds++) {
                due(rounds >= first[i] ? 1 : 0, e.could(kinds[i], 1, 1, 1, rounds));
                due(0, e.could(kinds[i], 2, 2, 2, rounds));
            }
        }
        due(1, e.could(0, 1, 0, 0, 0));
        due(1, e.could(0, 1, 0, 0, 3));
        due(0, e.could(0, 2, 0, 0, 0));
        for (int rounds : new int[] {-1, 4, Integer.MIN_VALUE, Integer.MAX_VALUE}) {
            refused('A', e, () -> e.could(0, 1, 0, 0, rounds));
        }
        nothing(1, e, () -> e.could(4, 1, 0, 0, 1));
        // What is put, not what is told; whatever acts are ahead of it.
        due(1, with("A1", "A1>-0,%,E1").could(4, 1, 0, 0, 1));
        due(1, with("A1", "!E1>C11,E1,E2").could(4, 2, 0, 0, 1));
        due(0, with("A1", "A1>.E1,$1").could(4, 1, 0, 0, 3));
        // Of any module; also of a match that is done.
        Ruleengine f = new Ruleengine();
        put(f, 5, -9, 2, "Au>Eu");
        tell(f, "A1");
        due(1, f.could(4, 1, 0, 0, 1));
        f.focus(2);
        f.step();
        f.take(1);
        due(0, f.house(2));
        due(0, f.could(4, 1, 0, 0, 0));
        due(1, f.could(4, 1, 0, 0, 1));
        // All other conditions but tests by what stands.
        due(0, with("A1", "Au>Eu", "?E1>F11").could(5, 1, 1, 0, 3));
        due(1, with("A1", "Au>Eu", "Eu,!E_>F11").could(5, 1, 1, 0, 2));
        due(1, with("A1", "Au>Eu", "Eu,*E9>F11").could(5, 1, 1, 0, 2));
        due(1, with("A1", "Au>Eu", "Eu,#vE_>Fuv").could(5, 1, 0, 0, 2));
        due(0, with("A1", "Au>Eu", "Eu,#vE_>Fuv").could(5, 1, 1, 0, 2));
        due(1, with("A1", "Au>Eu", "Eu,+vwEw>Fuv").could(5, 1, 0, 0, 3));
        due(1, with("A1", "Au>Eu", "Eu,+vwAw>Fuv").could(5, 1, 1, 0, 2));
        due(1, with("A2", "Au>Eu", "Eu,u<3>Fuu").could(5, 2, 2, 0, 2));
        due(0, with("A3", "Au>Eu", "Eu,u<3>Fuu").could(5, 3, 3, 0, 2));
        due(1, with("A1 A2", "Au>Eu", "Eu,Ev,u/v>Cuv").could(2, 2, 1, 0, 2));
        due(0, with("A1 A2", "Au>Eu", "Eu,Ev,u/v>Cuv").could(2, 1, 1, 0, 3));
        due(1, with("A9 A8", "+uvAv>Eu").could(4, 7, 0, 0, 1));
        // Just forty, and one more: in the round that is asked for, or in one ahead of it.
        Ruleengine g = with("A0 A1 A2 E1", "Au,Av>Buv", "Buv,Aw>Duvw");
        due(0, g.could(3, 0, 1, 2, 1));
        due(1, g.could(3, 0, 1, 2, 2));
        due(0, g.could(3, 3, 0, 0, 2));
        due(1, g.could(3, 0, 1, 2, 3));
        due(0, g.could(3, 3, 0, 0, 3));
        tell(g, "E2");
        due(1, g.could(0, 0, 0, 0, 0));
        due(0, g.could(1, 0, 1, 0, 0));
        due(1, g.could(1, 0, 1, 0, 1));
        due(0, g.could(3, 0, 1, 2, 1));
        for (int rounds = 2; rounds <= 3; rounds++) {
            due(MANY, g.could(3, 0, 1, 2, rounds));
            due(MANY, g.could(1, 0, 1, 0, rounds));
            due(MANY, g.could(0, 0, 0, 0, rounds));
            due(MANY, g.could(3, 9, 9, 9, rounds));
        }
        g.take(find(g, "E1"));
        due(1, g.could(3, 0, 1, 2, 2));
        Ruleengine h = with("A0 A1 A2 A3 A4", "Au,Av>Buv", "!C__,Au>C0u,C1u");
        due(1, h.could(2, 0, 4, 0, 1));
        due(1, h.could(2, 1, 4, 0, 3));
        put(h, 2, "A0>E0");
        due(MANY, h.could(2, 0, 4, 0, 1));
        Ruleengine full = crowd(16, "Bu_,Bv_>Buv");
        due(0, full.could(1, 1, 6, 0, 0));
        due(0, full.could(1, 1, 6, 0, 3));
        due(1, full.could(1, 1, 1, 0, 1));
    }

    // ---- 6. Undoing

    interface Change {
        Object on(Ruleengine e);
    }

    /** With rules, facts, windows, modules and reasons of all sorts, and two changes that can be undone. */
    private static Ruleengine rich() {
        Ruleengine e = new Ruleengine();
        put(e, 0, 1, 0, "Au,!Bu_>Eu,$u");
        put(e, 1, -2, 1, "Eu,#vA_>Fuv,@2");
        put(e, 4, 3, 2, "*Fuv,Au,+wxAx,u<w>.Cuu");
        tell(e, "A1 A2 B27 D123 E8");
        e.window(0, 40, 3);
        e.window(4, 30, 9);
        e.pass(3);
        e.focus(1);
        e.run(3, false);
        for (int i = 0; i < 4; i++) {
            e.undo();
        }
        e.focus(1);
        e.run(3, false);
        type(e, "Auv>Eu");
        e.knock();
        return e;
    }

    /** What an engine does from then on, in which all that it keeps shows. */
    private static String life(Ruleengine e) {
        StringBuilder text = new StringBuilder();
        text.append(all(e)).append(e.step()).append(all(e)).append(tell(e, "A3 A4 A5 A6")).append(all(e));
        text.append(e.run(5, false)).append(all(e)).append(tell(e, "E0 E1 E2 E3 E4 E5 E6 E7")).append(all(e));
        for (int i = 0; i < 14; i++) {
            text.append(e.pass(3)).append(e.facts(NONE)).append(e.house(3));
        }
        return text.append(e.run(4, true)).append(all(e)).toString();
    }

    private static void isUndone(Change change) {
        Ruleengine e = rich();
        int count = e.house(10);
        String before = all(e);
        change.on(e);
        due(count + 1, e.house(10));
        due(count, e.undo());
        due(count, e.house(10));
        due(before, all(e));
        Ruleengine same = rich();
        due(rich().digest(), e.digest());
        due(life(same), life(e));
        Ruleengine again = rich();
        Ruleengine other = rich();
        change.on(again);
        again.undo();
        change.on(again);
        change.on(other);
        due(life(other), life(again));
        // And those ahead of it, one after the other.
        Ruleengine back = rich();
        Ruleengine plain = rich();
        change.on(back);
        back.undo();
        for (int i = count - 1; i >= 0; i--) {
            due(i, back.undo());
            due(i, plain.undo());
            due(all(plain), all(back));
        }
        refused('S', back, back::undo);
        due(life(plain), life(back));
    }

    private static void undone() {
        part = "6, undone";
        due(4, rich().house(10));
        isUndone(e -> {
            type(e, "Au>Eu");
            int count = e.rule(2, 9, 2);
            type(e, "Auv>Eu");
            return count;
        });
        isUndone(e -> e.drop(0));
        isUndone(e -> e.drop(1));
        isUndone(e -> tell(e, "A7"));
        isUndone(e -> tell(e, "A1"));
        isUndone(e -> tell(e, "B10"));
        isUndone(e -> tell(e, "E2"));
        isUndone(e -> e.take(0));
        isUndone(e -> e.take(2));
        isUndone(e -> e.deny(0));
        isUndone(e -> e.deny(1));
        isUndone(e -> e.window(0, 40, 3));
        isUndone(e -> e.window(0, 2, 1));
        isUndone(e -> e.window(4, 0, 0));
        isUndone(e -> e.pass(1));
        isUndone(e -> e.pass(99));
        isUndone(e -> e.focus(0));
        isUndone(e -> e.run(1, true));
        isUndone(e -> tell(e, "A7") + e.undo() + e.pass(40));
        Ruleengine e = with("A1", "Au>Eu,$u,@1");
        String before = all(e);
        due(0, e.step());
        due(2, e.undo());
        due(before, all(e));
        due(1, e.run(30, false));
        due(2, e.undo());
        due(before, all(e));
        due(0, e.step());
        due("A1 E1", e.facts(NONE));
        due(1, e.house(11));
        due(2, e.house(1));
        // The last six; with a seventh the oldest is forgotten.
        Ruleengine f = new Ruleengine();
        refused('S', f, f::undo);
        for (int i = 1; i <= 9; i++) {
            due(0, f.pass(i));
            due(Math.min(i, 6), f.house(10));
        }
        due(45, f.house(6));
        int[] minutes = {36, 28, 21, 15, 10, 6};
        for (int i = 0; i < 6; i++) {
            due(5 - i, f.undo());
            due(minutes[i], f.house(6));
        }
        refused('S', f, f::undo);
        due(0, f.pass(2));
        due(1, f.house(10));
        due(0, f.undo());
        due(6, f.house(6));
        refused('S', f, f::undo);
        // Just six are all kept.
        Ruleengine g = new Ruleengine();
        for (int i = 0; i < 6; i++) {
            tell(g, "A" + i);
        }
        for (int i = 5; i >= 0; i--) {
            due(i, g.undo());
            due(i, g.house(0));
            due(i, g.house(1));
        }
        // Numbers to come are as they were, too.
        due(0, tell(g, "E3"));
        due(1, tell(g, "E4"));
        g.undo();
        due(1, tell(g, "D111"));
        // Undoing is no change: it is not undone itself, and a change behind it comes instead.
        due(2, g.house(10));
        due(1, g.undo());
        due("E3", g.facts(NONE));
        due(0, g.undo());
        due("", g.facts(NONE));
        refused('S', g, g::undo);
        // Some forward, some back, far beyond six.
        Ruleengine h = new Ruleengine();
        for (int i = 0; i < 20; i++) {
            h.pass(1);
            h.pass(2);
            h.pass(4);
            due(Math.min(2 * i + 2, 5), h.undo());
        }
        due(60, h.house(6));
        int[] back = {58, 57, 55, 54, 52};
        for (int i = 0; i < 5; i++) {
            due(4 - i, h.undo());
            due(back[i], h.house(6));
        }
        refused('S', h, h::undo);
    }

    private static void isNoChange() {
        part = "6, no change";
        Ruleengine e = with("A1", "Au>Eu");
        due(2, e.house(10));
        e.step();
        due(3, e.house(10));
        nothing(NONE, e, e::step);
        nothing(0, e, () -> e.run(30, false));
        nothing(0, e, () -> e.run(1, true));
        type(e, "A");
        nothing(-101, e, () -> e.rule(1, 0, 0));
        type(e, "A1>$u");
        nothing(UNFIT, e, () -> e.rule(1, 0, 0));
        refused('I', e, () -> e.drop(1));
        refused('A', e, () -> e.tell(0, 10, 0, 0));
        refused('I', e, () -> e.take(2));
        refused('S', e, () -> e.deny(1));
        refused('A', e, () -> e.window(0, 100, 0));
        refused('A', e, () -> e.pass(0));
        refused('S', e, () -> e.focus(0));
        refused('A', e, () -> e.run(31, false));
        due(3, e.house(10));
        due(2, e.undo());
        due("A1", e.facts(NONE));
        Ruleengine full = crowd(16);
        full.undo();
        full.undo();
        tell(full, "E0 E1");
        nothing(FULL, full, () -> tell(full, "A1"));
        due(6, full.house(10));
        full.undo();
        due(NONE, find(full, "E1"));
        Ruleengine ring = with("A1", "!E_>E1");
        nothing(RING, ring, () -> ring.run(30, true));
        due(2, ring.house(10));
        // These are one, also if all is as before then.
        due(0, tell(ring, "A1"));
        due(3, ring.house(10));
        due(0, ring.window(0, 0, 0));
        due(4, ring.house(10));
        due(0, ring.step());
        due("A1", ring.facts(NONE));
        due(5, ring.house(10));
        due(1, ring.run(1, false));
        due(6, ring.house(10));
        Ruleengine more = with("A1", "A1>%");
        due(1, more.run(30, false));
        due(3, more.house(10));
        due(0, more.pass(1));
        due(4, more.house(10));
        due(2, more.focus(1));
        due(5, more.house(10));
        due(0, more.drop(0));
        due(6, more.house(10));
    }

    private static void staysBehindUndoing() {
        part = "6, what stays";
        Ruleengine e = new Ruleengine();
        type(e, "Au>Eu");
        e.rule(0, 0, 0);
        e.knock();
        type(e, "E1>");
        e.knock();
        due(0, e.undo());
        due("E1>", e.typed());
        due(3, e.house(9));
        due(2, e.house(12));
        due("", e.text(0));
        due(3, e.knock());
        due(3, e.fault());
        // Neither is one that could be undone.
        refused('S', e, e::undo);
        due(3, e.house(12));
    }
}

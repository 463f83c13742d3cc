import java.math.BigInteger;
import java.util.ArrayList;
import java.util.List;

/**
 * Promise by promise: the last argument that is let through and the first one that is refused, several exceptions
 * at once, what comes to nothing; a call that is refused, and one that only asks, changes nothing.
 */
public final class RefusedTest {
    private static final String SIGNS = "0123456789ABCDEFuvwxyz_!?*#+=/<,>.-$%@";
    private static final int[] FIELDS = {1, 2, 2, 3, 1, 2};
    private static final int NONE = -1;
    private static final int MIN = Integer.MIN_VALUE;
    private static final int MAX = Integer.MAX_VALUE;
    private static int wrong = 0;
    private static int asked = 0;
    private static String part = "";

    interface Call {
        Object on(Ruleengine e);
    }

    interface Made {
        Ruleengine make();
    }

    /** A call that is refused on some engine, and with what: A, S or I. */
    static final class Refused {
        final String name;
        final char due;
        final Call call;

        Refused(String name, char due, Call call) {
            this.name = name;
            this.due = due;
            this.call = call;
        }
    }

    public static void main(String[] args) {
        fewSigns();
        manySigns();
        rules();
        drops();
        facts();
        takes();
        windowsAndMinutes();
        modules();
        runs();
        undoing();
        asking();
        factsAsked();
        couldBe();
        theHouse();
        asksChangeNothing();
        refusedChangeNothing();
        sound();
        digests();
        System.out.println(asked + " asked, " + wrong + " wrong");
        if (wrong != 0) {
            System.exit(1);
        }
    }

    private static void due(Object due, Object got) {
        asked++;
        if (!due.equals(got)) {
            wrong++;
            StringBuilder text = new StringBuilder();
            for (StackTraceElement at : new Throwable().getStackTrace()) {
                text.append(", line ").append(at.getLineNumber());
            }
            System.out.println(part + text + ": answered " + got + ", due is " + due);
        }
    }

    private static String answer(Ruleengine e, Call call) {
        try {
            return String.valueOf(call.on(e));
        } catch (RuntimeException x) {
            return x.getClass().getSimpleName();
        }
    }

    private static void fails(char due, Ruleengine e, Call call) {
        String before = all(e);
        due(nameOf(due), answer(e, call));
        due(before, all(e));
    }

    private static String nameOf(char due) {
        return due == 'A' ? "IllegalArgumentException" : due == 'S' ? "IllegalStateException"
            : "IndexOutOfBoundsException";
    }

    /** All that can be asked. */
    private static String all(Ruleengine e) {
        StringBuilder text = new StringBuilder();
        text.append(e.digest()).append('|').append(e.typed()).append('|').append(e.facts(NONE)).append('|');
        text.append(e.written()).append('|');
        for (int what = 0; what <= 12; what++) {
            text.append(e.house(what)).append(' ');
        }
        for (int slot = 0; slot < 6; slot++) {
            text.append('|').append(e.text(slot));
            for (int what = 0; what <= 8 && !e.text(slot).isEmpty(); what++) {
                text.append(' ').append(e.ofRule(slot, what));
            }
        }
        for (int number : standing(e)) {
            text.append('|').append(number).append(' ').append(e.why(number, 4));
            for (int what = 4; what <= 7; what++) {
                text.append(' ').append(e.ofFact(number, what));
            }
        }
        for (int n = 0; n < 40 && !e.match(n).isEmpty(); n++) {
            text.append('|').append(e.match(n));
        }
        return text.toString();
    }

    private static List<Integer> standing(Ruleengine e) {
        List<Integer> all = new ArrayList<>();
        for (int fact = 0; fact < e.house(1); fact++) {
            int number = fact;
            if (answer(e, x -> x.ofFact(number, 0)).length() == 1) {
                all.add(fact);
            }
        }
        return all;
    }

    private static void type(Ruleengine e, String text) {
        e.say(38, NONE, NONE, NONE, NONE, NONE);
        for (int i = 0; i < text.length(); i++) {
            e.say(SIGNS.indexOf(text.charAt(i)), NONE, NONE, NONE, NONE, NONE);
        }
    }

    private static int put(Ruleengine e, int slot, int urgency, int module, String text) {
        type(e, text);
        return e.rule(slot, urgency, module);
    }

    private static void tell(Ruleengine e, String facts) {
        for (String fact : facts.split(" ")) {
            int[] value = new int[3];
            for (int i = 1; i < fact.length(); i++) {
                value[i - 1] = fact.charAt(i) - '0';
            }
            e.tell(fact.charAt(0) - 'A', value[0], value[1], value[2]);
        }
    }

    private static Ruleengine with(String facts, String... rules) {
        Ruleengine e = new Ruleengine();
        for (int slot = 0; slot < rules.length; slot++) {
            put(e, slot, 0, 0, rules[slot]);
        }
        if (!facts.isEmpty()) {
            tell(e, facts);
        }
        return e;
    }

    private static Ruleengine crowd(int count) {
        Ruleengine e = new Ruleengine();
        for (int i = 0; i < count; i++) {
            e.tell(1, i / 10, i % 10, 0);
        }
        return e;
    }

    // ---- promises 2 to 4

    private static int[] codes(int at, int code, int others) {
        int[] codes = new int[6];
        for (int i = 0; i < 6; i++) {
            codes[i] = i == at ? code : others;
        }
        return codes;
    }

    private static int say(Ruleengine e, int[] c) {
        return e.say(c[0], c[1], c[2], c[3], c[4], c[5]);
    }

    private static void fewSigns() {
        part = "promise 2, codes";
        Ruleengine e = new Ruleengine();
        type(e, "A1>");
        for (int at = 0; at < 6; at++) {
            int of = at;
            for (int code : new int[] {-2, 40, MIN, MAX}) {
                fails('A', e, x -> say(x, codes(of, code, NONE)));
                fails('A', e, x -> say(x, codes(of, code, 38)));
                fails('A', e, x -> say(x, codes(of, code, 0)));
            }
            due(3, say(e, codes(at, NONE, NONE)));
            due(4, say(e, codes(at, 0, NONE)));
            due(3, say(e, codes(at, 39, NONE)));
            due(4, say(e, codes(at, 37, NONE)));
            due(3, say(e, codes(at, 39, NONE)));
            due("A1>", e.typed());
        }
        for (int at = 0; at < 6; at++) {
            type(e, "A1>");
            due(5 - at, say(e, codes(at, 38, 7)));
            due("77777".substring(at), e.typed());
            type(e, "A1>");
            due(at == 0 ? 2 + 5 : 3 + 4, say(e, codes(at, 39, 7)));
        }
    }

    private static void manySigns() {
        part = "promise 2, sixty";
        for (int room = 0; room <= 6; room++) {
            // So many more have room; with one of them more, at some place, there were 61.
            Ruleengine e = new Ruleengine();
            for (int i = 0; i < 60 - room; i++) {
                e.say(1, NONE, NONE, NONE, NONE, NONE);
            }
            for (int count = 0; count <= 6; count++) {
                int[] c = new int[6];
                for (int i = 0; i < 6; i++) {
                    c[i] = i < count ? 2 : NONE;
                }
                if (count > room) {
                    fails('S', e, x -> say(x, c));
                    // Emptied or taken away behind it is too late.
                    for (int late : new int[] {38, 39}) {
                        if (count < 6) {
                            int[] d = c.clone();
                            d[5] = late;
                            fails('S', e, x -> say(x, d));
                        }
                    }
                    // A code that is none goes ahead.
                    for (int at = 0; at < 6; at++) {
                        int[] d = c.clone();
                        d[at] = 40;
                        fails('A', e, x -> say(x, d));
                    }
                } else {
                    due(60 - room + count, say(e, c));
                    for (int i = 0; i < count; i++) {
                        e.say(39, NONE, NONE, NONE, NONE, NONE);
                    }
                }
            }
            due(60 - room, e.house(9));
            due("1".repeat(60 - room), e.typed());
        }
    }

    private static void rules() {
        part = "promise 3";
        for (int slot = -3; slot <= 8; slot++) {
            for (int urgency : new int[] {MIN, -11, -10, -9, 0, 9, 10, 11, MAX}) {
                for (int module : new int[] {MIN, -2, -1, 0, 2, 3, 4, MAX}) {
                    Ruleengine e = new Ruleengine();
                    put(e, 4, 0, 0, "A1>%");
                    int of = slot;
                    boolean isGood = urgency >= -9 && urgency <= 9 && module >= 0 && module <= 2;
                    if (slot < 0 || slot > 5) {
                        fails('I', e, x -> x.rule(of, urgency, module));
                    } else if (!isGood) {
                        fails('A', e, x -> x.rule(of, urgency, module));
                    } else if (slot == 4) {
                        fails('S', e, x -> x.rule(of, urgency, module));
                        // Also ahead of a fault and of what is unfit.
                        type(e, "A");
                        fails('S', e, x -> x.rule(of, urgency, module));
                        type(e, "A1>$u");
                        fails('S', e, x -> x.rule(of, urgency, module));
                    } else {
                        due(0, e.rule(slot, urgency, module));
                        due(urgency, e.ofRule(slot, 0));
                        due(module, e.ofRule(slot, 1));
                    }
                }
            }
        }
        Ruleengine e = new Ruleengine();
        for (int slot : new int[] {MIN, MAX}) {
            fails('I', e, x -> x.rule(slot, 0, 0));
            fails('I', e, x -> x.rule(slot, MAX, MIN));
        }
        // The exceptions go ahead of a fault, a fault of what is unfit.
        fails('I', e, x -> x.rule(6, 0, 0));
        fails('A', e, x -> x.rule(0, 10, 0));
        due(-100, e.rule(0, 0, 0));
        type(e, "A1>$u,");
        due(-106, e.rule(0, 0, 0));
        type(e, "A1>$u");
        due(-3, e.rule(0, 0, 0));
        type(e, "A1>$1");
        due(0, e.rule(0, 0, 0));
        type(e, "1".repeat(60));
        due(-101, e.rule(1, 0, 0));
        type(e, "A1,".repeat(20));
        due(-160, e.rule(1, 0, 0));
        due(60, e.fault());
        // How many matches of it hold: none, one, many.
        Ruleengine f = with("A1 A2 A3 B11");
        due(0, put(f, 0, 0, 0, "C__>%"));
        due(1, put(f, 1, 0, 0, "!C__>%"));
        due(27, put(f, 2, 0, 0, "A_,A_,A_>%"));
        due(1, put(f, 3, 0, 0, "1=1>%"));
        due(0, put(f, 4, 0, 0, "0=1>%"));
        due("0=1>%", f.typed());
    }

    private static void drops() {
        part = "promise 4";
        Ruleengine e = with("A1", "Au>Eu", "A1>$1");
        e.run(30, false);
        for (int slot : new int[] {MIN, -1, 2, 5, 6, MAX}) {
            fails('I', e, x -> x.drop(slot));
        }
        due(0, e.drop(1));
        due(1, e.drop(0));
        fails('I', e, x -> x.drop(0));
        fails('I', e, x -> x.drop(1));
        due(0, e.house(7));
        due("1", e.written());
        // A fact that is told, or has a reason of another rule, stands.
        Ruleengine f = with("A1 E1", "Au>Eu,Fuu", "Au>Fuu");
        f.run(30, false);
        due(0, f.drop(0));
        due("A1 E1 F11", f.facts(NONE));
        due(1, f.drop(1));
        // All of its reasons' facts, and those behind them, in another slot, too.
        Ruleengine g = with("A1 A2", "1=2>%", "1=2>%", "1=2>%", "1=2>%", "Eu>Fuu", "Au>Eu");
        due(4, g.run(30, false));
        due(4, g.drop(5));
        due("A1 A2", g.facts(NONE));
    }

    // ---- promises 5 to 10

    private static void facts() {
        part = "promises 5, 24, 28";
        Ruleengine e = new Ruleengine();
        int number = 0;
        for (int kind = 0; kind <= 5; kind++) {
            int of = kind;
            for (int field = 0; field < FIELDS[kind]; field++) {
                for (int value : new int[] {MIN, -1, 10, MAX}) {
                    int[] v = {4, 4, 4};
                    v[field] = value;
                    fails('A', e, x -> x.tell(of, v[0], v[1], v[2]));
                    fails('A', e, x -> x.find(of, v[0], v[1], v[2]));
                    fails('A', e, x -> x.could(of, v[0], v[1], v[2], 0));
                    fails('A', e, x -> x.could(of, v[0], v[1], v[2], 4));
                }
            }
            int[] v = {9, MIN, MAX};
            for (int field = 0; field < FIELDS[kind]; field++) {
                v[field] = field == 1 ? 0 : 9;
            }
            due(NONE, e.find(kind, v[0], v[1], v[2]));
            due(0, e.could(kind, v[0], v[1], v[2], 0));
            due(number, e.tell(kind, v[0], v[1], v[2]));
            due(number, e.find(kind, v[0], v[1], v[2]));
            due(1, e.could(kind, v[0], v[1], v[2], 3));
            due(number, e.tell(kind, v[0], v[1], v[2]));
            number++;
        }
        due("A9 B90 C90 D909 E9 F90", e.facts(NONE));
        for (int kind : new int[] {MIN, -1, 6, MAX}) {
            fails('A', e, x -> x.tell(kind, 1, 1, 1));
            fails('A', e, x -> x.tell(kind, 10, 10, 10));
            fails('A', e, x -> x.find(kind, 1, 1, 1));
            fails('A', e, x -> x.could(kind, 1, 1, 1, 1));
        }
        // A wrong one is refused also if 16 stand.
        Ruleengine f = crowd(16);
        fails('A', f, x -> x.tell(1, 10, 0, 0));
        fails('A', f, x -> x.tell(6, 0, 0, 0));
        due(-4, f.tell(0, 0, MAX, MIN));
        due(NONE, f.find(0, 0, MAX, MIN));
        // By a reason alone, then told: its number, and it stays without the reason.
        Ruleengine g = with("A1", "Au>Eu");
        g.step();
        due(1, g.tell(4, 1, 0, 0));
        due(0, g.drop(0));
        due("A1 E1", g.facts(NONE));
    }

    private static void takes() {
        part = "promises 6, 7";
        Ruleengine e = with("A1 A2 E2", "Au>Eu");
        e.run(30, false);
        due("A1 A2 E2 E1", e.facts(NONE));
        for (int fact : new int[] {MIN, -2, -1, 4, 5, MAX}) {
            fails('I', e, x -> x.take(fact));
            fails('I', e, x -> x.deny(fact));
            fails('I', e, x -> x.ofFact(fact, 0));
            fails('I', e, x -> x.ofFact(fact, 8));
            fails('I', e, x -> x.why(fact, 0));
            fails('I', e, x -> x.why(fact, 5));
        }
        fails('S', e, x -> x.deny(3));
        due(0, e.deny(2));
        fails('S', e, x -> x.deny(2));
        due(2, e.deny(1));
        fails('I', e, x -> x.deny(1));
        fails('I', e, x -> x.take(1));
        fails('I', e, x -> x.take(2));
        due(1, e.take(3));
        fails('I', e, x -> x.deny(3));
        due(1, e.deny(0));
        fails('I', e, x -> x.take(0));
        due("", e.facts(NONE));
        due(4, e.house(1));
    }

    private static void windowsAndMinutes() {
        part = "promises 8, 9";
        int[] some = {MIN, -2, -1, 0, 1, 15, 16, 17, 98, 99, 100, MAX};
        for (int kind : new int[] {MIN, -1, 0, 5, 6, MAX}) {
            for (int minutes : some) {
                for (int most : some) {
                    Ruleengine e = with("D111");
                    boolean isGood = (kind == 0 || kind == 5) && minutes >= 0 && minutes <= 99 && most >= 0 && most <= 16;
                    if (isGood) {
                        due(0, e.window(kind, minutes, most));
                        due(2, e.house(10));
                    } else {
                        fails('A', e, x -> x.window(kind, minutes, most));
                    }
                }
            }
        }
        for (int minutes : new int[] {MIN, -1, 0, 100, MAX}) {
            fails('A', with("A1"), x -> x.pass(minutes));
        }
        Ruleengine e = with("A1");
        due(0, e.pass(1));
        due(1, e.house(6));
        due(0, e.pass(99));
        due(100, e.house(6));
        for (int i = 0; i < 99; i++) {
            e.pass(99);
        }
        due(9901, e.house(6));
        fails('S', e, x -> x.pass(99));
        for (int minutes : new int[] {MIN, 0, 100, MAX}) {
            fails('A', e, x -> x.pass(minutes));
        }
        due(0, e.pass(98));
        fails('S', e, x -> x.pass(1));
        fails('S', e, x -> x.pass(99));
        // The window goes by the last minute, too.
        due(1, e.window(0, 99, 0));
    }

    private static void modules() {
        part = "promise 10";
        Ruleengine e = new Ruleengine();
        for (int module : new int[] {MIN, -1, 3, MAX}) {
            fails('A', e, x -> x.focus(module));
        }
        fails('S', e, x -> x.focus(0));
        due(2, e.focus(2));
        fails('S', e, x -> x.focus(2));
        due(3, e.focus(0));
        fails('S', e, x -> x.focus(0));
        due(4, e.focus(1));
        fails('S', e, x -> x.focus(1));
        due(5, e.focus(0));
        for (int module = 0; module <= 2; module++) {
            int of = module;
            fails('S', e, x -> x.focus(of));
        }
        for (int module : new int[] {MIN, -1, 3, MAX}) {
            fails('A', e, x -> x.focus(module));
        }
        due(4 + " " + 5, e.house(10) + " " + e.house(4));
    }

    // ---- promises 11 to 14

    private static void runs() {
        part = "promise 12";
        Ruleengine e = with("A0 A1 A2 A3 A4 A5", "Au,Av>$u");
        for (int most : new int[] {MIN, -1, 0, 31, MAX}) {
            fails('A', e, x -> x.run(most, false));
            fails('A', e, x -> x.run(most, true));
        }
        due(1, e.run(1, false));
        due(35, e.house(2));
        due(1, e.run(1, true));
        due(34, e.house(2));
        due(30, e.run(30, false));
        due(4, e.house(2));
        due(4, e.run(30, false));
        due(36, e.house(11));
        due(0, e.run(1, false));
        due(0, e.run(30, true));
        due(NONE, e.step());
        // Just thirty.
        Ruleengine f = with("A0 A1 A2 A3 A4 E0 E1 E2 E3 E4 E5", "A_,E_>$1");
        due(30, f.house(2));
        due(30, f.run(30, true));
        due(0, f.house(2));
        // A ring is one for a run by layers alone; what is asked wrong goes ahead.
        Ruleengine g = with("A1", "!E1>E1", "Au>$u");
        fails('A', g, x -> x.run(0, true));
        fails('A', g, x -> x.run(31, true));
        String before = all(g);
        due(-6, g.run(1, true));
        due(-6, g.run(30, true));
        due(before, all(g));
        due(1, g.run(1, false));
        due("1", g.written());
        // Also if nothing is on the agenda.
        Ruleengine h = with("", "#uA_,A1>A1");
        due(0, h.house(2));
        due(-6, h.run(5, true));
        due(0, h.run(5, false));
    }

    private static void undoing() {
        part = "promises 13, 14";
        Ruleengine e = new Ruleengine();
        fails('S', e, x -> x.undo());
        due(1, e.knock());
        fails('S', e, x -> x.undo());
        e.tell(0, 1, 0, 0);
        due(0, e.undo());
        fails('S', e, x -> x.undo());
        for (int i = 2; i <= 40; i++) {
            due(i, e.knock());
        }
        due(40, e.house(12));
        due(0, e.house(10));
    }

    // ---- promises 15 to 32

    private static void asking() {
        part = "promises 18 to 23";
        Ruleengine e = new Ruleengine();
        put(e, 0, 0, 0, "1=1>%");
        put(e, 5, 0, 0, "Au,!Buu,#vA_,A_,A_>%,%,%");
        tell(e, "A1 A2");
        for (int slot : new int[] {MIN, -1, 6, MAX}) {
            fails('I', e, x -> x.text(slot));
            fails('I', e, x -> x.stuck(slot));
            for (int what : new int[] {MIN, -1, 0, 8, 9, MAX}) {
                fails('I', e, x -> x.ofRule(slot, what));
                fails('I', e, x -> x.partials(slot, what));
            }
        }
        for (int slot = 1; slot <= 4; slot++) {
            int of = slot;
            due("", e.text(slot));
            fails('I', e, x -> x.ofRule(of, 0));
            fails('I', e, x -> x.ofRule(of, 9));
            fails('I', e, x -> x.partials(of, 1));
            fails('I', e, x -> x.partials(of, 0));
            fails('I', e, x -> x.stuck(of));
        }
        for (int what : new int[] {MIN, -1, 9, MAX}) {
            fails('A', e, x -> x.ofRule(0, what));
            fails('A', e, x -> x.ofRule(5, what));
        }
        int[] small = {0, 0, 1, 0, 1, 0, 1, 0, 0};
        int[] large = {0, 0, 5, 3, 3, 1, 8, 0, 0};
        for (int what = 0; what <= 8; what++) {
            due(small[what], e.ofRule(0, what));
            due(large[what], e.ofRule(5, what));
        }
        for (int k : new int[] {MIN, -1, 0, 2, MAX}) {
            fails('A', e, x -> x.partials(0, k));
        }
        for (int k : new int[] {MIN, -1, 0, 6, MAX}) {
            fails('A', e, x -> x.partials(5, k));
        }
        due(1, e.partials(0, 1));
        int[] partials = {2, 2, 2, 4, 8};
        for (int k = 1; k <= 5; k++) {
            due(partials[k - 1], e.partials(5, k));
        }
        due(1, e.stuck(0));
        due(5, e.stuck(5));
        for (int nth : new int[] {MIN, -2, -1}) {
            fails('A', e, x -> x.match(nth));
        }
        due("5:0,0,1;2", e.match(0));
        due("5:0,0,0;2", e.match(7));
        due("0:", e.match(8));
        due("", e.match(9));
        due("", e.match(10));
        due("", e.match(MAX));
        due("", new Ruleengine().match(0));
        due("", new Ruleengine().match(MAX));
        for (int kind : new int[] {MIN, -1, 6, MAX}) {
            fails('A', e, x -> x.layer(kind));
        }
        due(0, e.layer(0));
        due(0, e.layer(5));
        // One that is stuck ahead of each of its conditions.
        String[] facts = {"", "A1", "A1 B12", "A1 B12 C11", "A1 B12 C11 D111", "A1 B12 C11 D111 E1"};
        for (int k = 0; k <= 5; k++) {
            due(k, with(facts[k], "?A_,?B__,?C__,?D___,?E_>%").stuck(0));
            due(Math.min(k, 3), with(facts[k], "Au,Bu_,Cuv,v/1>%").stuck(0));
        }
    }

    private static void factsAsked() {
        part = "promises 25 to 27";
        Ruleengine e = with("A1 D123", "Au>Eu", "Eu>Fuu", "Fuv>Cuv", "Cuv>Bvu", "Buv>Duv0");
        e.run(30, false);
        for (int fact = 0; fact <= 6; fact++) {
            int of = fact;
            for (int what : new int[] {MIN, -1, 8, MAX}) {
                fails('A', e, x -> x.ofFact(of, what));
            }
            for (int depth : new int[] {MIN, -1, 5, MAX}) {
                fails('A', e, x -> x.why(of, depth));
            }
        }
        for (int what : new int[] {MIN, -1, 0, 7, 8, MAX}) {
            fails('I', e, x -> x.ofFact(7, what));
            fails('I', e, x -> x.why(7, what));
        }
        due("0 1 -1 -1 0 1 0 0", row(e, 0));
        due("3 1 2 3 0 1 0 0", row(e, 1));
        due("5 1 1 -1 0 0 1 2", row(e, 3));
        due("3 1 1 0 0 0 1 5", row(e, 6));
        due("D110", e.why(6, 0));
        due("D110(4 B11)", e.why(6, 1));
        due("D110(4 B11(3 C11(2 F11(1 E1))))", e.why(6, 4));
        due("B11(3 C11(2 F11(1 E1(0 A1!))))", e.why(5, 4));
        due("D123!", e.why(1, 0));
        due("D123!", e.why(1, 4));
        for (int kind : new int[] {MIN, -2, 6, MAX}) {
            fails('A', e, x -> x.facts(kind));
        }
        due("A1 D123 E1 F11 C11 B11 D110", e.facts(NONE));
        due("A1", e.facts(0));
        due("F11", e.facts(5));
        due("D123 D110", e.facts(3));
        e.take(1);
        due("D110", e.facts(3));
        due("", new Ruleengine().facts(NONE));
        due("", new Ruleengine().facts(0));
        due("", new Ruleengine().facts(5));
        // By rising numbers, wherever they are held.
        e.tell(0, 0, 0, 0);
        due("A1 E1 F11 C11 B11 D110 A0", e.facts(NONE));
        // The first reason by slot, by facts, by numbers; only of those with smaller ranks.
        Ruleengine f = with("A1 A2", "Eu,Fvw>C11", "Eu>C11", "#uA_>E1,F12", "Cuv>E1");
        f.run(30, false);
        int c11 = f.find(2, 1, 1, 0);
        due("C11(0 E1(2) F12(2))", f.why(c11, 4));
        due("E1(2)", f.why(f.find(4, 1, 0, 0), 1));
        f.drop(0);
        due("C11(1 E1(2))", f.why(c11, 4));
        due("C11(1 E1)", f.why(c11, 1));
        f.tell(2, 1, 1, 0);
        due("C11!", f.why(c11, 4));
        due(3, f.ofFact(f.find(4, 1, 0, 0), 6) + 1);
    }

    private static String row(Ruleengine e, int fact) {
        StringBuilder text = new StringBuilder();
        for (int what = 0; what <= 7; what++) {
            text.append(what > 0 ? " " : "").append(e.ofFact(fact, what));
        }
        return text.toString();
    }

    private static void couldBe() {
        part = "promise 28";
        Ruleengine e = with("A1", "Au>Eu");
        for (int rounds : new int[] {MIN, -1, 4, MAX}) {
            fails('A', e, x -> x.could(0, 1, 0, 0, rounds));
            fails('A', e, x -> x.could(6, 10, 0, 0, rounds));
        }
        due(1, e.could(0, 1, MIN, MAX, 0));
        due(0, e.could(4, 1, MIN, MAX, 0));
        due(1, e.could(4, 1, MIN, MAX, 1));
        due(1, e.could(4, 1, MIN, MAX, 3));
        // An argument that is wrong is refused, also if there would be too many.
        Ruleengine f = with("A0 A1 A2 A3 A4 A5 A6", "Au,Av>Buv");
        due(-5, f.could(0, 0, 0, 0, 1));
        due(-5, f.could(0, 0, 0, 0, 3));
        due(1, f.could(0, 0, 0, 0, 0));
        fails('A', f, x -> x.could(0, 10, 0, 0, 1));
        fails('A', f, x -> x.could(0, 0, 0, 0, 4));
        // After too many, a question about fewer.
        due(0, f.could(1, 0, 0, 0, 0));
        f.take(6);
        due(-5, f.could(1, 0, 0, 0, 1));
        f.take(5);
        due(1, f.could(1, 4, 4, 0, 1));
        due(0, f.could(1, 4, 5, 0, 3));
        due(0, f.could(1, 5, 5, 0, 3));
    }

    private static void theHouse() {
        part = "promise 30";
        Ruleengine e = new Ruleengine();
        for (int what : new int[] {MIN, -1, 13, MAX}) {
            fails('A', e, x -> x.house(what));
        }
        Ruleengine f = rich();
        StringBuilder text = new StringBuilder();
        for (int what = 0; what <= 12; what++) {
            text.append(f.house(what)).append(' ');
        }
        due("8 8 0 4 3 2 3 3 8 6 6 4 2 ", text.toString());
    }

    // ---- all of it

    /** With rules, facts, windows, modules and reasons of all sorts. */
    private static Ruleengine rich() {
        Ruleengine e = new Ruleengine();
        put(e, 0, 1, 0, "Au,!Bu_>Eu,$u");
        put(e, 1, -2, 1, "Eu,#vA_>Fuv,@2");
        put(e, 5, 3, 2, "*Fuv,Au,+wxAx,u<w>.Cuu");
        tell(e, "A1 A2 B27 D123");
        e.window(0, 40, 3);
        e.window(4, 30, 2);
        e.window(3, 99, 16);
        e.pass(3);
        e.run(9, false);
        e.focus(1);
        e.run(9, false);
        e.knock();
        e.knock();
        type(e, "Auv>Eu");
        return e;
    }

    private static Ruleengine fullOfAll() {
        Ruleengine e = crowd(16);
        put(e, 3, 9, 2, "B_u,B_v,B__,u/v>$u,$v,@1");
        for (int i = 0; i < 101; i++) {
            e.pass(99);
        }
        e.focus(2);
        e.focus(0);
        e.focus(1);
        e.focus(2);
        e.run(7, true);
        type(e, "1".repeat(60));
        return e;
    }

    /** With facts that stand by reasons far deeper than three. */
    private static Ruleengine chain() {
        Ruleengine e = with("A1", "Duvw>Dvw1", "A1>D234", "D111>D567", "D711>D089");
        e.run(30, false);
        return e;
    }

    private static Ruleengine ring() {
        Ruleengine e = with("A1 A2", "!E1>E1", "Au>Fuu");
        e.step();
        return e;
    }

    /** What an engine does from then on, in which all that it keeps shows. */
    private static String life(Ruleengine e) {
        StringBuilder text = new StringBuilder();
        text.append(all(e)).append(e.step()).append(all(e));
        for (String fact : "A3 A4 A5 A6 E0 E1 E2 E3 D111 F11".split(" ")) {
            tell(e, fact);
        }
        text.append(all(e)).append(e.run(5, false)).append(all(e)).append(e.run(4, true)).append(all(e));
        for (int i = 0; i < 14; i++) {
            text.append(answer(e, x -> x.pass(3))).append(e.facts(NONE)).append(e.house(3));
        }
        return text.toString();
    }

    private static String back(Ruleengine e) {
        StringBuilder text = new StringBuilder(all(e));
        for (int i = 0; i < 8; i++) {
            text.append(answer(e, x -> x.undo())).append(all(e));
        }
        return text.append(life(e)).toString();
    }

    private static List<Made> makers() {
        List<Made> all = new ArrayList<>();
        all.add(Ruleengine::new);
        all.add(RefusedTest::rich);
        all.add(RefusedTest::fullOfAll);
        all.add(RefusedTest::ring);
        all.add(RefusedTest::chain);
        return all;
    }

    private static void asksChangeNothing() {
        part = "questions change nothing";
        for (Made made : makers()) {
            Ruleengine e = made.make();
            Ruleengine other = made.make();
            askAll(e);
            due(life(other), life(e));
            e = made.make();
            askAll(e);
            due(back(made.make()), back(e));
        }
    }

    private static void askAll(Ruleengine e) {
        for (int i = 0; i < 2; i++) {
            all(e);
            e.typed();
            e.fault();
            e.isFit();
            e.isSound();
            for (int kind = 0; kind < 6; kind++) {
                e.layer(kind);
                e.facts(kind);
                e.find(kind, 1, 1, 1);
                for (int rounds = 0; rounds <= 3; rounds++) {
                    e.could(kind, 1, 1, 1, rounds);
                }
            }
            for (int slot = 0; slot < 6; slot++) {
                for (int k = 1; !e.text(slot).isEmpty() && k <= e.ofRule(slot, 2); k++) {
                    e.partials(slot, k);
                    e.stuck(slot);
                }
            }
            e.match(MAX);
        }
    }

    /** Each of them is refused on every engine, or named to be so on that one. */
    private static List<Refused> refused() {
        List<Refused> all = new ArrayList<>();
        all.add(new Refused("say", 'A', e -> e.say(1, 38, 40, 1, 1, 1)));
        all.add(new Refused("rule", 'I', e -> e.rule(6, 0, 0)));
        all.add(new Refused("rule", 'A', e -> e.rule(4, 10, 0)));
        all.add(new Refused("drop", 'I', e -> e.drop(4)));
        all.add(new Refused("tell", 'A', e -> e.tell(3, 1, 1, 10)));
        all.add(new Refused("take", 'I', e -> e.take(99)));
        all.add(new Refused("deny", 'I', e -> e.deny(99)));
        all.add(new Refused("window", 'A', e -> e.window(0, 2, 17)));
        all.add(new Refused("window", 'A', e -> e.window(0, 100, 1)));
        all.add(new Refused("window", 'A', e -> e.window(6, 1, 1)));
        all.add(new Refused("pass", 'A', e -> e.pass(100)));
        all.add(new Refused("focus", 'A', e -> e.focus(3)));
        all.add(new Refused("run", 'A', e -> e.run(31, false)));
        all.add(new Refused("run", 'A', e -> e.run(0, true)));
        all.add(new Refused("text", 'I', e -> e.text(6)));
        all.add(new Refused("ofRule", 'I', e -> e.ofRule(4, 0)));
        all.add(new Refused("partials", 'I', e -> e.partials(4, 1)));
        all.add(new Refused("stuck", 'I', e -> e.stuck(4)));
        all.add(new Refused("match", 'A', e -> e.match(-1)));
        all.add(new Refused("layer", 'A', e -> e.layer(6)));
        all.add(new Refused("find", 'A', e -> e.find(1, 1, 10, 0)));
        all.add(new Refused("ofFact", 'I', e -> e.ofFact(99, 0)));
        all.add(new Refused("facts", 'A', e -> e.facts(6)));
        all.add(new Refused("why", 'I', e -> e.why(99, 0)));
        all.add(new Refused("could", 'A', e -> e.could(0, 1, 1, 1, 4)));
        all.add(new Refused("house", 'A', e -> e.house(13)));
        return all;
    }

    private static void refusedChangeNothing() {
        for (Made made : makers()) {
            Ruleengine whole = made.make();
            Ruleengine past = made.make();
            for (Refused one : refused()) {
                part = "refused " + one.name;
                Ruleengine e = made.make();
                String before = all(e);
                due(nameOf(one.due), answer(e, one.call));
                due(before, all(e));
                due(nameOf(one.due), answer(whole, one.call));
                due(nameOf(one.due), answer(past, one.call));
            }
            due(life(made.make()), life(whole));
            due(back(made.make()), back(past));
        }
        part = "refused by its state";
        Ruleengine e = rich();
        fails('S', e, x -> x.rule(5, 0, 0));
        fails('S', e, x -> x.deny(4));
        fails('S', e, x -> x.deny(5));
        fails('S', e, x -> x.focus(2));
        due(life(rich()), life(e));
        Ruleengine full = fullOfAll();
        fails('S', full, x -> x.say(0, 39, NONE, NONE, NONE, NONE));
        fails('S', full, x -> x.rule(3, 0, 0));
        fails('S', full, x -> x.pass(1));
        due(true, full.house(4) <= 5);
        due(-4, full.tell(0, 1, 0, 0));
        due(life(fullOfAll()), life(full));
        Ruleengine none = new Ruleengine();
        fails('S', none, x -> x.undo());
        fails('S', none, x -> x.focus(0));
        due(life(new Ruleengine()), life(none));
    }

    private static void sound() {
        part = "promise 31";
        for (Made made : makers()) {
            Ruleengine e = made.make();
            due(true, e.isSound());
            e.run(30, false);
            due(true, e.isSound());
            for (int i = 0; i < 4; i++) {
                answer(e, x -> x.undo());
                due(true, e.isSound());
            }
        }
        Ruleengine e = crowd(16);
        put(e, 0, 0, 0, "B__,B__,B__>$1");
        due(true, e.isSound());
        e.run(30, false);
        due(true, e.isSound());
        e.take(3);
        due(true, e.isSound());
    }

    /** The checksum, in numbers without an end, cut to 64 bits at last. */
    private static long sum(Ruleengine e) {
        List<Integer> all = new ArrayList<>();
        for (int what = 0; what <= 12; what++) {
            all.add(e.house(what));
        }
        for (int fact : standing(e)) {
            all.add(fact);
            for (int what = 0; what <= 7; what++) {
                all.add(e.ofFact(fact, what));
            }
            all.add(e.why(fact, 3).length());
        }
        for (int slot = 0; slot < 6; slot++) {
            if (!e.text(slot).isEmpty()) {
                all.add(slot);
                for (int what = 0; what <= 8; what++) {
                    all.add(e.ofRule(slot, what));
                }
                for (int k = 1; k <= e.ofRule(slot, 2); k++) {
                    all.add(e.partials(slot, k));
                }
                all.add(e.stuck(slot));
            }
        }
        all.add(e.match(0).length());
        for (int kind = 0; kind < 6; kind++) {
            all.add(e.layer(kind));
        }
        all.add(e.fault());
        all.add(e.could(0, 1, 0, 0, 1));
        all.add(e.could(1, 1, 2, 0, 1));
        all.add(e.written().length());
        all.add(e.isSound() ? 1 : 0);
        BigInteger d = BigInteger.valueOf(5906);
        for (int v : all) {
            d = d.multiply(BigInteger.valueOf(31)).add(BigInteger.valueOf(v));
        }
        return d.longValue();
    }

    private static void digests() {
        part = "promise 32";
        boolean isBelow = false;
        boolean isAbove = false;
        for (Made made : makers()) {
            Ruleengine e = made.make();
            for (int i = 0; i < 12; i++) {
                due(sum(e), e.digest());
                isBelow |= e.digest() < 0;
                isAbove |= e.digest() > 0;
                int of = i;
                answer(e, x -> of % 3 == 0 ? x.step() : of % 3 == 1 ? x.tell(of % 6, 1, 2, 3) : x.undo());
            }
        }
        due(true, isBelow);
        due(true, isAbove);
        // The whole of a new engine, worked out.
        BigInteger d = BigInteger.valueOf(5906);
        int[] all = {0, 0, 0, 0, 1, 0, 0, 0, 0, 0, 0, 0, 0, 0, 0, 0, 0, 0, 0, 0, 0, 0, 0, 0, 1};
        for (int v : all) {
            d = d.multiply(BigInteger.valueOf(31)).add(BigInteger.valueOf(v));
        }
        due(true, d.bitLength() > 64);
        due(d.longValue(), new Ruleengine().digest());
    }
}

/**
 * Sentences of the document that are easily read in another way, and promises 27, 30, 31 and 32 as a whole; all
 * worked out by hand.
 */
public final class SentencesTest {
    private static final String SIGNS = "0123456789ABCDEFuvwxyz_!?*#+=/<,>.-$%@";
    private static final int NONE = -1;
    private static final int UNFIT = -3;
    private static final int FULL = -4;
    private static final int MANY = -5;
    private static final int RING = -6;
    private static int wrong = 0;
    private static int asked = 0;
    private static String part = "";

    public static void main(String[] args) {
        sameFactForSeveral();
        oneMatchIsOneReason();
        reasonsGoWithTheirFacts();
        whatIsAChange();
        whatIsNone();
        numbersOfNothing();
        doneAndOnTheAgenda();
        theWhole();
        System.out.println(asked + " asked, " + wrong + " wrong");
        if (wrong != 0) {
            System.exit(1);
        }
    }

    private static void due(Object due, Object got) {
        asked++;
        if (!due.equals(got)) {
            wrong++;
            StackTraceElement[] trace = new Throwable().getStackTrace();
            System.out.println(part + ", line " + trace[1].getLineNumber() + ": answered " + got + ", due is " + due);
        }
    }

    private static void type(Ruleengine e, String text) {
        e.say(38, NONE, NONE, NONE, NONE, NONE);
        for (int i = 0; i < text.length(); i++) {
            e.say(SIGNS.indexOf(text.charAt(i)), NONE, NONE, NONE, NONE, NONE);
        }
    }

    private static int put(Ruleengine e, int slot, int urgency, int module, String text) {
        type(e, text);
        return e.rule(slot, urgency, module);
    }

    private static int tell(Ruleengine e, String facts) {
        int number = NONE;
        for (String fact : facts.split(" ")) {
            int[] value = new int[3];
            for (int i = 1; i < fact.length(); i++) {
                value[i - 1] = fact.charAt(i) - '0';
            }
            number = e.tell(fact.charAt(0) - 'A', value[0], value[1], value[2]);
        }
        return number;
    }

    private static Ruleengine with(String facts, String... rules) {
        Ruleengine e = new Ruleengine();
        for (int slot = 0; slot < rules.length; slot++) {
            put(e, slot, 0, 0, rules[slot]);
        }
        if (!facts.isEmpty()) {
            tell(e, facts);
        }
        return e;
    }

    /** Section 3, promises 22 and 27: one fact for each HAS, also the same one for several. */
    private static void sameFactForSeveral() {
        part = "the same fact for several";
        Ruleengine e = with("A1", "A_,A_,A_>E1", "E_,Eu>F1u", "Fuv,!C__,Fu_,#wA_>Duvw");
        due("0:0,0,0", e.match(0));
        due(1, e.partials(0, 3));
        due(3, e.run(30, false));
        due("A1 E1 F11 D111", e.facts(NONE));
        due("E1", e.why(1, 0));
        due("E1(0 A1! A1! A1!)", e.why(1, 1));
        due("E1(0 A1! A1! A1!)", e.why(1, 4));
        due("F11(1 E1 E1)", e.why(2, 1));
        due("F11(1 E1(0 A1! A1! A1!) E1(0 A1! A1! A1!))", e.why(2, 2));
        due("D111(2 F11 F11)", e.why(3, 1));
        due("D111(2 F11(1 E1 E1) F11(1 E1 E1))", e.why(3, 2));
        for (int fact = 1; fact <= 3; fact++) {
            due(1, e.ofFact(fact, 6));
            due(fact, e.ofFact(fact, 7));
        }
        tell(e, "E1");
        due("F11(1 E1! E1!)", e.why(2, 4));
        // One twice and another one: the order of the HAS, not of the numbers.
        Ruleengine f = with("A2 A1", "Au,Av,Aw,v<u,w=u>E1", "Au,Av,Aw,v<u,w=v>E2");
        due("0:0,1,0", f.match(0));
        due("1:0,1,1", f.match(1));
        due(2, f.run(30, false));
        due("E1(0 A2! A1! A2!)", f.why(f.find(4, 1, 0, 0), 1));
        due("E2(1 A2! A1! A1!)", f.why(f.find(4, 2, 0, 0), 1));
        // Taken once, it stands no more for the others.
        Ruleengine g = with("A1", "A_,A_,A_>-0,-1,-2");
        due(0, g.step());
        due("", g.facts(NONE));
        due(1, g.house(11));
        // With the facts of reasons the first by facts is that with the smaller numbers.
        Ruleengine h = with("A1 A2", "A_,A_>E1");
        due(4, h.run(30, false));
        due(4, h.ofFact(2, 6));
        due("E1(0 A1! A1!)", h.why(2, 1));
        h.take(0);
        due("E1(0 A2! A2!)", h.why(2, 1));
        due(1, h.ofFact(2, 6));
    }

    /** Section 4 and promise 25: the MATCH is a REASON; one that puts a fact twice is one. */
    private static void oneMatchIsOneReason() {
        part = "one match is one reason";
        Ruleengine e = with("A1", "A1>E1,E1,E1", "A1>E1,F11,E1");
        due(0, e.step());
        due(1, e.ofFact(1, 6));
        due(1, e.ofRule(0, 8));
        due(1, e.step());
        due(2, e.ofFact(1, 6));
        due(1, e.ofFact(2, 6));
        due(1, e.ofRule(0, 8));
        due(2, e.ofRule(1, 8));
        due(0, e.drop(0));
        due(1, e.ofFact(1, 6));
        due(2, e.drop(1));
        // The same by the rest by 10.
        Ruleengine f = with("A9 A2", "+uvAv>Eu,E1", "+uvAv,Aw>Eu");
        due(3, f.run(30, false));
        due("A9 A2 E1", f.facts(NONE));
        due(3, f.ofFact(2, 6));
        due("E1(0)", f.why(2, 1));
        due(1, f.ofRule(0, 8));
        due(1, f.ofRule(1, 8));
        // A fact that is told has reasons, too; they do not show as long as it is told.
        Ruleengine g = with("A1 E1", "Au>Eu");
        due(0, g.step());
        due(2, g.house(1));
        due(1, g.ofFact(1, 6));
        due(0, g.ofFact(1, 7));
        due("E1!", g.why(1, 4));
        due(0, g.deny(1));
        due(1, g.ofFact(1, 7));
        due("E1(0 A1!)", g.why(1, 4));
        // Of one rule as many reasons as matches.
        Ruleengine h = with("A1 A2 A3", "Au,Av,u<v>E1");
        due(3, h.run(30, false));
        due(3, h.ofFact(3, 6));
        due(1, h.ofRule(0, 8));
        due(3, h.ofRule(0, 7));
        due("E1(0 A1! A2!)", h.why(3, 1));
    }

    private static void reasonsGoWithTheirFacts() {
        part = "no reasons of before";
        // It goes by the window within the match, and comes again by the same one.
        Ruleengine e = with("A1", "A1>E1,.E2,E1");
        e.window(4, 0, 1);
        due(0, e.step());
        due("A1 E1", e.facts(NONE));
        due(3, e.find(4, 1, 0, 0));
        due(4, e.house(1));
        due(1, e.ofFact(3, 6));
        due("E1(0 A1!)", e.why(3, 1));
        due(1, e.ofRule(0, 8));
        // Taken by its own match it comes with another number, and founded on what stands.
        Ruleengine f = with("A1 E1", "A1,!F__>E1", "A1,E1>-1,E1,$1");
        due(1, f.step());
        due("A1", f.facts(NONE));
        due("1", f.written());
        due(0, f.house(3));
        due(0, f.step());
        due(2, f.find(4, 1, 0, 0));
        due(1, f.ofFact(2, 6));
        due("E1(0 A1!)", f.why(2, 4));
        // A match that is done stays so when what it put has gone; what comes again is not its own.
        Ruleengine g = with("A1", "Au>Eu,Fuu");
        due(0, g.step());
        due(1, g.take(1));
        due(1, g.house(3));
        due(1, g.ofRule(0, 8));
        due(3, tell(g, "E1"));
        due(0, g.ofFact(3, 6));
        due(1, g.deny(3));
        due("A1 F11", g.facts(NONE));
    }

    /** Section 6: what a CHANGE is, call by call. */
    private static void whatIsAChange() {
        part = "changes";
        Ruleengine e = new Ruleengine();
        type(e, "Au>Eu");
        due(0, e.house(10));
        due(0, e.rule(0, 0, 0));
        due(1, e.house(10));
        due(0, tell(e, "A1"));
        due(2, e.house(10));
        due(0, tell(e, "A1"));
        due(3, e.house(10));
        due(0, e.window(2, 0, 0));
        due(4, e.house(10));
        due(0, e.window(2, 0, 0));
        due(5, e.house(10));
        for (int count = 4; count >= 2; count--) {
            due(count, e.undo());
            due("A1", e.facts(NONE));
        }
        due(0, e.pass(1));
        due(3, e.house(10));
        due(0, e.step());
        due(4, e.house(10));
        due(NONE, e.step());
        due(0, e.run(1, false));
        due(0, e.run(1, true));
        due(4, e.house(10));
        due(2, e.focus(1));
        due(5, e.house(10));
        due(0, e.deny(0) - 2);
        due(6, e.house(10));
        due(5, e.undo());
        due(2, e.take(0));
        due(6, e.house(10));
        due(5, e.undo());
        due(1, e.drop(0));
        due(6, e.house(10));
        due(5, e.undo());
        // A run is one, however many matches it does.
        tell(e, "A2 A3 A4");
        due(6, e.house(10));
        due(3, e.run(30, false));
        due(6, e.house(10));
        due(5, e.undo());
        due("A1 E1 A2 A3 A4", e.facts(NONE));
        due(4, e.undo());
        due("A1 E1 A2 A3", e.facts(NONE));
        // Those that come to nothing are none; nor is what is typed, knocked, or asked.
        int count = e.house(10);
        type(e, "A");
        due(-101, e.rule(1, 0, 0));
        type(e, "A1>Eu");
        due(UNFIT, e.rule(1, 0, 0));
        e.knock();
        e.digest();
        e.could(4, 1, 0, 0, 3);
        due(count, e.house(10));
    }

    private static void whatIsNone() {
        part = "NONE";
        Ruleengine e = with("A1 D123", "!A2>$1", "Au>$u");
        due(NONE, e.find(0, 2, 0, 0));
        due(NONE, e.ofFact(0, 2));
        due(NONE, e.ofFact(0, 3));
        due(3, e.ofFact(1, 3));
        // The newness of a match without facts is less than that of the fact 0.
        due("1:0", e.match(0));
        due("0:", e.match(1));
        due(2, e.run(30, false));
        due("1 1", e.written());
        due(NONE, e.step());
        type(e, "A1>%");
        due(NONE, e.fault());
        put(e, 2, 0, 0, "!E1>E1");
        due(NONE, e.layer(3));
        due(NONE, e.ofRule(1, 5));
    }

    /** UNFIT, FULL, MANY, RING, a FAULT: nothing is changed, and exceptions go ahead of them. */
    private static void numbersOfNothing() {
        part = "numbers of nothing";
        Ruleengine e = new Ruleengine();
        put(e, 0, 0, 0, "!Eu>E1");
        put(e, 1, 0, 0, "Bu_,B_v>Cuv,D1uv");
        for (int i = 0; i < 16; i++) {
            e.tell(1, i % 4, i / 4, 0);
        }
        type(e, "A1>.");
        long before = e.digest();
        due(-104, e.rule(5, 9, 2));
        due(before, e.digest());
        due(FULL, e.tell(2, 1, 1, 0));
        due(before, e.digest());
        due(RING, e.run(30, true));
        due(before, e.digest());
        due(MANY, e.could(1, 1, 1, 0, 1));
        due(1, e.could(1, 1, 1, 0, 0));
        due(before, e.digest());
        type(e, "A1>-1");
        before = e.digest();
        due(UNFIT, e.rule(5, 9, 2));
        due(before, e.digest());
        due("IllegalStateException", thrown(e, 0));
        due("IllegalArgumentException", thrown(e, 1));
        due("IllegalArgumentException", thrown(e, 2));
        due("IllegalArgumentException", thrown(e, 3));
        due(before, e.digest());
        due(16, e.house(0));
        due(16, e.house(1));
    }

    private static String thrown(Ruleengine e, int which) {
        try {
            int got = which == 0 ? e.rule(0, 9, 2) : which == 1 ? e.tell(2, 1, 10, 0) : which == 2 ? e.run(0, true)
                : e.could(1, 1, 1, 0, 4);
            return "" + got;
        } catch (RuntimeException x) {
            return x.getClass().getSimpleName();
        }
    }

    /** Promise 30, 2 and 3: a match that holds is either done or on the agenda. */
    private static void doneAndOnTheAgenda() {
        part = "done and on the agenda";
        Ruleengine e = with("A1 A2 B11 B22", "Au,Buv>Eu", "!C__,Au>Fuu", "#uE_>$u", "Eu,!A3>D1u1");
        int most = 0;
        for (int i = 0; i < 14; i++) {
            int hold = 0;
            int done = 0;
            for (int slot = 0; slot < 4; slot++) {
                hold += e.ofRule(slot, 6);
                done += e.ofRule(slot, 7);
                due(e.ofRule(slot, 6), e.partials(slot, e.ofRule(slot, 2)));
            }
            due(hold, e.house(2) + e.house(3));
            due(done, e.house(3));
            due(true, e.isSound());
            for (int n = 0; n < e.house(2); n++) {
                due(false, e.match(n).isEmpty());
            }
            due("", e.match(e.house(2)));
            most = Math.max(most, e.house(3));
            if (i == 9) {
                tell(e, "A3");
            } else if (i == 11) {
                tell(e, "C11");
            } else {
                e.step();
            }
        }
        due(true, most >= 6);
    }

    /** One engine, of which each number that the checksum takes is worked out. */
    private static void theWhole() {
        part = "the whole";
        Ruleengine e = new Ruleengine();
        due(0, put(e, 1, 2, 0, "Au,!Bu_>Eu,$u"));
        due(0, put(e, 3, -1, 1, "E_,E_,#vA_>Fv1"));
        due(0, put(e, 5, 0, 2, "D___>%"));
        due(2, tell(e, "A1 A2 B20"));
        due(1, e.step());
        due(2, e.focus(1));
        due("3:3,3;2", e.match(0));
        due(3, e.step());
        due(0, e.pass(7));
        due(5, tell(e, "D123"));
        e.knock();
        e.knock();
        type(e, "A1>");
        due("F21(3 E1(1 A1!) E1(1 A1!))", e.why(4, 3));
        due("5:5", e.match(0));
        long[] all = {
            6, 6, 1, 2, 2, 1, 7, 3, 6, 3, 6, 2, 2,
            0, 0, 1, NONE, NONE, 0, 1, 0, 0, 3,
            1, 0, 2, NONE, NONE, 0, 1, 0, 0, 3,
            2, 1, 2, 0, NONE, 0, 1, 0, 0, 4,
            3, 4, 1, NONE, NONE, 0, 0, 1, 1, 9,
            4, 5, 2, 1, NONE, 0, 0, 1, 2, 26,
            5, 3, 1, 2, 3, 7, 1, 0, 0, 5,
            1, 2, 0, 2, 1, 2, 1, 1, 1, 1, 2, 1, 2,
            3, -1, 1, 3, 2, 1, 1, 1, 1, 1, 1, 1, 1, 3,
            5, 0, 2, 1, 1, 1, 0, 1, 0, 0, 1, 1,
            3,
            0, 0, 0, 0, 1, 1,
            3, 1, 0, 1, 1,
        };
        due(sum(all), e.digest());
        due(sum(all), e.digest());
        for (int what = 0; what <= 12; what++) {
            due((int) all[what], e.house(what));
        }
        // Told no more, A1 goes with all that stood by it; these windows let nothing go; D123 is taken.
        due(3, e.deny(0));
        due(0, e.window(3, 0, 1));
        due(0, e.window(3, 0, 0));
        due(1, e.take(5));
        due("A2 B20", e.facts(NONE));
        type(e, "");
        long[] less = {
            2, 6, 0, 0, 2, 1, 7, 3, 6, 0, 6, 2, 2,
            1, 0, 2, NONE, NONE, 0, 1, 0, 0, 3,
            2, 1, 2, 0, NONE, 0, 1, 0, 0, 4,
            1, 2, 0, 2, 1, 2, 1, 0, 0, 0, 1, 0, 1,
            3, -1, 1, 3, 2, 1, 1, 0, 0, 0, 0, 0, 0, 0,
            5, 0, 2, 1, 1, 1, 0, 0, 0, 0, 0, 0,
            0,
            0, 0, 0, 0, 1, 1,
            0, 0, 0, 1, 1,
        };
        due(sum(less), e.digest());
        // And back: all but what is typed and who knocked.
        for (int i = 5; i >= 2; i--) {
            due(i, e.undo());
        }
        type(e, "A1>");
        all[10] = 2;
        due(sum(all), e.digest());
        e.knock();
        all[12] = 3;
        due(sum(all), e.digest());
    }

    private static long sum(long[] all) {
        long d = 5906;
        for (long v : all) {
            d = d * 31 + v;
        }
        return d;
    }
}

import java.util.ArrayList;
import java.util.Arrays;
import java.util.Collections;
import java.util.Comparator;
import java.util.HashMap;
import java.util.LinkedHashMap;
import java.util.LinkedHashSet;
import java.util.List;
import java.util.Map;
import java.util.Random;
import java.util.Set;
import java.util.TreeMap;
import java.util.TreeSet;
import java.util.regex.Matcher;
import java.util.regex.Pattern;

/**
 * Runs of random calls (always the same ones), each answer against a plain model of the document,
 * which tries everything anew for each question.
 */
public final class FuzzTest {
    static final String SIGNS = "0123456789ABCDEFuvwxyz_!?*#+=/<,>.-$%@";
    static int wrong = 0;
    static int calls = 0;

    public static void main(String[] args) {
        int runs = args.length > 0 ? Integer.parseInt(args[0]) : 160;
        int first = args.length > 1 ? Integer.parseInt(args[1]) : 0;
        for (int seed = first; seed < first + runs && wrong < 10; seed++) {
            new Driver(seed).drive();
        }
        System.out.println(calls + " calls, " + wrong + " wrong");
        if (wrong != 0) {
            System.exit(1);
        }
    }

    /** One run of calls. */
    static final class Driver {
        final Random random;
        final long seed;
        final Ruleengine engine = new Ruleengine();
        final Model model = new Model();
        final StringBuilder log = new StringBuilder();
        final int style;

        Driver(long seed) {
            this.seed = seed;
            random = new Random(seed * 7919 + 17);
            style = (int) (seed % 8);
        }

        int below(int n) {
            return random.nextInt(n);
        }

        void drive() {
            int most = 60 + below(452);
            for (int made = 0; made < most && wrong < 10; made++) {
                act();
                if (below(4) == 0) {
                    check("digest");
                }
                if (below(12) == 0) {
                    checkAll();
                }
            }
            checkAll();
        }

        void checkAll() {
            check("facts", -1);
            check("written");
            check("typed");
            check("isSound");
            check("isFit");
            check("digest");
            for (int n = 0; n < 8; n++) {
                check("match", n);
            }
            check("match", below(60));
            for (int number : new ArrayList<>(model.now.facts.keySet())) {
                check("why", number, below(5));
                check("ofFact", number, below(8));
            }
        }

        void act() {
            switch (below(20)) {
                case 0: case 1: case 2:
                    typeRule();
                    check("rule", slotForRule(), below(5) - 2, below(3) * below(2));
                    break;
                case 3:
                    if (below(isChain() ? 2 : 4) == 0) {
                        check("drop", below(6));
                    }
                    break;
                case 4: case 5: case 6: case 7: case 8:
                    tellOne();
                    break;
                case 9:
                    check("take", factNumber());
                    break;
                case 10:
                    check("deny", factNumber());
                    break;
                case 11:
                    if (below(3) == 0) {
                        check("window", below(6), below(2) * below(8), below(2) * below(6));
                    } else {
                        check("pass", below(30) == 0 ? 99 : 1 + below(3));
                    }
                    break;
                case 12:
                    check("focus", below(3));
                    break;
                case 13: case 14:
                    check("step");
                    break;
                case 15:
                    check("run", 1 + below(below(3) == 0 ? 30 : 5), below(3) == 0 ? 1 : 0);
                    break;
                case 16:
                    check("undo");
                    break;
                case 17:
                    askSome();
                    break;
                case 18:
                    wrongOnes();
                    break;
                default:
                    askOther();
                    break;
            }
        }

        int value() {
            return below(style == 0 ? 10 : style == 6 ? 4 : 3);
        }

        /** In chains rules mostly put, and few facts are told: most stand by reasons. */
        boolean isChain() {
            return style >= 4;
        }

        int slotForRule() {
            for (int slot = 0; slot < 6; slot++) {
                if (!model.hasRule(slot) && below(8) != 0) {
                    return slot;
                }
            }
            return below(6);
        }

        int factNumber() {
            List<Integer> all = new ArrayList<>(model.now.facts.keySet());
            if (all.isEmpty() || below(10) == 0) {
                return below(20) - 2;
            }
            return all.get(below(all.size()));
        }

        void tellOne() {
            if (isChain() && model.now.facts.size() > 3 && below(3) != 0) {
                check("run", 1 + below(12), below(4) == 0 ? 1 : 0);
                if (below(3) == 0) {
                    checkAll();
                }
                return;
            }
            check("tell", below(style == 1 ? 2 : isChain() ? 3 : 6), value(), value(), value());
        }

        void askSome() {
            int slot = below(6);
            check("ofRule", slot, below(10) - 0);
            check("partials", slot, below(7));
            check("stuck", slot);
            check("text", slot);
            check("layer", below(6));
            check("find", below(6), value(), value(), value());
            check("could", below(6), value(), value(), value(), below(4));
            check("house", below(13));
        }

        void askOther() {
            check("knock");
            check("facts", below(7) - 1);
            check("fault");
            check("isFit");
            check("could", below(6), value(), value(), value(), below(4));
        }

        void wrongOnes() {
            check("say", below(42) - 2, below(42) - 2, -1, -1, -1, 39);
            check("rule", below(9) - 1, below(25) - 12, below(5) - 1);
            check("drop", below(3) == 0 ? 6 : -1);
            check("tell", below(8) - 1, below(13) - 1, below(13) - 1, below(13) - 1);
            check("find", below(8) - 1, below(13) - 1, below(13) - 1, below(13) - 1);
            check("could", below(8) - 1, below(13) - 1, below(13) - 1, below(13) - 1, below(6) - 1);
            check("take", below(5) - 3);
            check("deny", below(5) - 3);
            check("window", below(8) - 1, below(3) == 0 ? 100 : -1 + below(30), below(19) - 1);
            check("pass", below(2) == 0 ? 0 : 100);
            check("focus", below(5) - 1);
            check("run", below(2) == 0 ? 0 : 31, 0);
            check("match", -1 - below(3));
            check("layer", below(2) == 0 ? -1 : 6);
            check("ofFact", factNumber(), below(10) - 1);
            check("ofRule", below(8) - 1, below(11) - 1);
            check("partials", below(8) - 1, below(8) - 1);
            check("stuck", below(8) - 1);
            check("text", below(8) - 1);
            check("facts", below(9) - 2);
            check("why", factNumber(), below(7) - 1);
            check("house", below(15) - 1);
        }

        void typeRule() {
            String text = ruleText();
            List<Integer> codes = new ArrayList<>();
            codes.add(38);
            for (char sign : text.toCharArray()) {
                codes.add(SIGNS.indexOf(sign));
                if (below(80) == 0) {
                    codes.add(39);
                }
                if (below(80) == 0) {
                    codes.add(below(40));
                }
            }
            while (codes.size() % 6 != 0) {
                codes.add(-1);
            }
            for (int i = 0; i < codes.size(); i += 6) {
                check("say", codes.get(i), codes.get(i + 1), codes.get(i + 2), codes.get(i + 3), codes.get(i + 4),
                        codes.get(i + 5));
            }
            check("fault");
            check("isFit");
        }

        char variable() {
            return "uvwxyz".charAt(below(style == 0 ? 6 : 3));
        }

        String atom(boolean isAct, Set<Character> known) {
            int kind = below(style == 1 ? 2 : 6);
            StringBuilder text = new StringBuilder();
            text.append((char) ('A' + kind));
            for (int i = 0; i < Model.FIELDS[kind]; i++) {
                int which = below(10);
                if (isAct) {
                    text.append(side(known));
                } else if (which < 2) {
                    text.append((char) ('0' + value()));
                } else if (which < 3) {
                    text.append('_');
                } else {
                    text.append(variable());
                }
            }
            return text.toString();
        }

        char side(Set<Character> known) {
            if (!known.isEmpty() && below(4) != 0) {
                List<Character> all = new ArrayList<>(known);
                return all.get(below(all.size()));
            }
            return below(30) == 0 ? variable() : (char) ('0' + value());
        }

        void learn(String atom, Set<Character> known) {
            for (char sign : atom.toCharArray()) {
                if (sign >= 'u' && sign <= 'z') {
                    known.add(sign);
                }
            }
        }

        String ruleText() {
            Set<Character> known = new TreeSet<>();
            StringBuilder text = new StringBuilder();
            int conditions = 1 + below(below(8) == 0 ? 6 : 3);
            int has = 0;
            for (int i = 0; i < conditions; i++) {
                if (i > 0) {
                    text.append(',');
                }
                int which = isChain() && below(3) != 0 ? 0 : below(14);
                if (which < 6 && (has < 3 || below(20) == 0)) {
                    String atom = atom(false, known);
                    learn(atom, known);
                    text.append(atom);
                    has++;
                } else if (which < 10) {
                    text.append("!?*".charAt(below(3))).append(atom(false, known));
                } else if (which < 11) {
                    char left = variable();
                    text.append('#').append(left).append(atom(false, known));
                    known.add(left);
                } else if (which < 12) {
                    char left = variable();
                    char right = variable();
                    String atom = atom(false, known);
                    for (int t = 0; t < 9 && atom.indexOf(right) < 0; t++) {
                        atom = atom(false, known);
                    }
                    text.append('+').append(left).append(right).append(atom);
                    known.add(left);
                } else {
                    text.append(side(known)).append("=/<".charAt(below(3))).append(side(known));
                }
            }
            text.append('>');
            int acts = 1 + below(below(10) == 0 ? 4 : 3);
            for (int i = 0; i < acts; i++) {
                if (i > 0) {
                    text.append(',');
                }
                int which = isChain() && below(4) != 0 ? 0 : below(12);
                if (which < 6) {
                    text.append(atom(true, known));
                } else if (which < 8) {
                    text.append('.').append(atom(true, known));
                } else if (which < 9) {
                    text.append('-').append(below(Math.max(1, has)));
                } else if (which < 10) {
                    text.append('$').append(side(known));
                } else if (which < 11) {
                    text.append(below(3) == 0 ? "%" : "$1");
                } else {
                    text.append('@').append(below(below(20) == 0 ? 4 : 3));
                }
            }
            return text.toString();
        }

        void check(String name, int... a) {
            calls++;
            String due = answer(() -> model.ask(name, a));
            String got = answer(() -> ask(name, a));
            log.append(name).append(Arrays.toString(a)).append(" -> ").append(got).append('\n');
            if (!due.equals(got)) {
                wrong++;
                String all = log.toString();
                System.out.println("seed " + seed + ":\n" + all.substring(Math.max(0, all.length() - 6000))
                        + "due is " + due);
                wrong = 1000;
            }
        }

        Object ask(String name, int[] a) {
            switch (name) {
                case "say": return engine.say(a[0], a[1], a[2], a[3], a[4], a[5]);
                case "rule": return engine.rule(a[0], a[1], a[2]);
                case "drop": return engine.drop(a[0]);
                case "tell": return engine.tell(a[0], a[1], a[2], a[3]);
                case "take": return engine.take(a[0]);
                case "deny": return engine.deny(a[0]);
                case "window": return engine.window(a[0], a[1], a[2]);
                case "pass": return engine.pass(a[0]);
                case "focus": return engine.focus(a[0]);
                case "step": return engine.step();
                case "run": return engine.run(a[0], a[1] == 1);
                case "undo": return engine.undo();
                case "knock": return engine.knock();
                case "typed": return engine.typed();
                case "fault": return engine.fault();
                case "isFit": return engine.isFit();
                case "text": return engine.text(a[0]);
                case "ofRule": return engine.ofRule(a[0], a[1]);
                case "partials": return engine.partials(a[0], a[1]);
                case "stuck": return engine.stuck(a[0]);
                case "match": return engine.match(a[0]);
                case "layer": return engine.layer(a[0]);
                case "find": return engine.find(a[0], a[1], a[2], a[3]);
                case "ofFact": return engine.ofFact(a[0], a[1]);
                case "facts": return engine.facts(a[0]);
                case "why": return engine.why(a[0], a[1]);
                case "could": return engine.could(a[0], a[1], a[2], a[3], a[4]);
                case "written": return engine.written();
                case "house": return engine.house(a[0]);
                case "isSound": return engine.isSound();
                default: return engine.digest();
            }
        }
    }

    interface Call {
        Object make();
    }

    static String answer(Call call) {
        try {
            return String.valueOf(call.make());
        } catch (IllegalStateException e) {
            return "throws.IllegalStateException";
        } catch (IllegalArgumentException e) {
            return "throws.IllegalArgumentException";
        } catch (IndexOutOfBoundsException e) {
            if (e.getClass() != IndexOutOfBoundsException.class) {
                throw e;
            }
            return "throws.IndexOutOfBoundsException";
        }
    }

    /** The document, word by word. */
    static final class Model {
        static final int[] FIELDS = {1, 2, 2, 3, 1, 2};
        static final String ATOM = "(?:[AE][0-9u-z_]|[BCF][0-9u-z_]{2}|D[0-9u-z_]{3})";
        static final String PUTS = "(?:[AE][0-9u-z]|[BCF][0-9u-z]{2}|D[0-9u-z]{3})";
        static final String CONDITION = "(?:" + ATOM + "|[!?*]" + ATOM + "|#[u-z]" + ATOM + "|\\+[u-z][u-z]" + ATOM
                + "|[0-9u-z][=/<][0-9u-z])";
        static final String ACT = "(?:\\.?" + PUTS + "|-[0-9]|\\$[0-9u-z]|%|@[0-2])";
        static final Pattern RULE = Pattern.compile(CONDITION + "(?:," + CONDITION + ")*>" + ACT + "(?:," + ACT + ")*");

        static final class Fact {
            int number;
            String text;
            int minute;
            boolean isTold;

            int kind() {
                return text.charAt(0) - 'A';
            }

            int field(int i) {
                return i + 1 < text.length() ? text.charAt(i + 1) - '0' : -1;
            }
        }

        static final class Rule {
            int id;
            String text;
            int urgency;
            int module;

            private String[] conditions;
            private String[] acts;

            String[] conditions() {
                if (conditions == null) {
                    conditions = text.substring(0, text.indexOf('>')).split(",");
                }
                return conditions;
            }

            String[] acts() {
                if (acts == null) {
                    acts = text.substring(text.indexOf('>') + 1).split(",");
                }
                return acts;
            }
        }

        static final class Match {
            int slot;
            int rule;
            List<Integer> facts = new ArrayList<>();
            List<Integer> numbers = new ArrayList<>();
            Map<Character, Integer> values = new HashMap<>();

            String name() {
                return rule + ":" + facts + ";" + numbers;
            }

            Match copy() {
                Match other = new Match();
                other.slot = slot;
                other.rule = rule;
                other.facts.addAll(facts);
                other.numbers.addAll(numbers);
                other.values.putAll(values);
                return other;
            }
        }

        static final class Done {
            Match match;
            Set<Integer> reasonOf = new TreeSet<>();
        }

        static final class State {
            TreeMap<Integer, Fact> facts = new TreeMap<>();
            Rule[] rules = new Rule[6];
            LinkedHashMap<String, Done> done = new LinkedHashMap<>();
            List<Integer> stack = new ArrayList<>(List.of(0));
            List<Integer> written = new ArrayList<>();
            int came;
            int minute;
            int doneEver;
            int[] minutes = new int[6];
            int[] most = new int[6];

            State copy() {
                State other = new State();
                for (Fact fact : facts.values()) {
                    Fact same = new Fact();
                    same.number = fact.number;
                    same.text = fact.text;
                    same.minute = fact.minute;
                    same.isTold = fact.isTold;
                    other.facts.put(same.number, same);
                }
                other.rules = rules.clone();
                for (Map.Entry<String, Done> entry : done.entrySet()) {
                    Done same = new Done();
                    same.match = entry.getValue().match;
                    same.reasonOf.addAll(entry.getValue().reasonOf);
                    other.done.put(entry.getKey(), same);
                }
                other.stack = new ArrayList<>(stack);
                other.written = new ArrayList<>(written);
                other.came = came;
                other.minute = minute;
                other.doneEver = doneEver;
                other.minutes = minutes.clone();
                other.most = most.clone();
                return other;
            }
        }

        State now = new State();
        final List<State> past = new ArrayList<>();
        String typed = "";
        int knocked;
        int rulesEver;
        boolean isStopped;

        Object ask(String name, int[] a) {
            switch (name) {
                case "say": return say(a);
                case "rule": return rule(a[0], a[1], a[2]);
                case "drop": return drop(a[0]);
                case "tell": return tell(a);
                case "take": return take(a[0]);
                case "deny": return deny(a[0]);
                case "window": return window(a[0], a[1], a[2]);
                case "pass": return pass(a[0]);
                case "focus": return focus(a[0]);
                case "step": return step();
                case "run": return run(a[0], a[1] == 1);
                case "undo": return undo();
                case "knock": return ++knocked;
                case "typed": return typed;
                case "fault": return fault();
                case "isFit": return isFit();
                case "text": return text(a[0]);
                case "ofRule": return ofRule(a[0], a[1]);
                case "partials": return partials(a[0], a[1]);
                case "stuck": return stuck(a[0]);
                case "match": return match(a[0]);
                case "layer": return layer(a[0]);
                case "find": return find(a);
                case "ofFact": return ofFact(a[0], a[1]);
                case "facts": return facts(a[0]);
                case "why": return why(a[0], a[1]);
                case "could": return could(a);
                case "written": return joined(now.written, " ");
                case "house": return house(a[0]);
                case "isSound": return true;
                default: return digest();
            }
        }

        static void bad(boolean isBad) {
            if (isBad) {
                throw new IllegalArgumentException();
            }
        }

        static void out(boolean isOut) {
            if (isOut) {
                throw new IndexOutOfBoundsException();
            }
        }

        static void state(boolean isBad) {
            if (isBad) {
                throw new IllegalStateException();
            }
        }

        int say(int[] codes) {
            for (int code : codes) {
                bad(code < -1 || code > 39);
            }
            String text = typed;
            for (int code : codes) {
                if (code == 38) {
                    text = "";
                } else if (code == 39) {
                    text = text.isEmpty() ? "" : text.substring(0, text.length() - 1);
                } else if (code >= 0) {
                    text += SIGNS.charAt(code);
                }
                state(text.length() > 60);
            }
            typed = text;
            return text.length();
        }

        int fault() {
            if (RULE.matcher(typed).matches()) {
                return -1;
            }
            int longest = 0;
            for (int length = 0; length <= typed.length(); length++) {
                Matcher matcher = RULE.matcher(typed.substring(0, length));
                if (matcher.matches() || matcher.hitEnd()) {
                    longest = length;
                }
            }
            return longest;
        }

        static boolean isVariable(char sign) {
            return sign >= 'u' && sign <= 'z';
        }

        static boolean isHas(String condition) {
            return condition.charAt(0) >= 'A' && condition.charAt(0) <= 'F';
        }

        static boolean isTest(String condition) {
            return condition.length() == 3 && "=/<".indexOf(condition.charAt(1)) >= 0;
        }

        static Set<Character> variables(String text) {
            Set<Character> all = new TreeSet<>();
            for (char sign : text.toCharArray()) {
                if (isVariable(sign)) {
                    all.add(sign);
                }
            }
            return all;
        }

        boolean isFit() {
            if (fault() != -1) {
                return false;
            }
            Rule rule = new Rule();
            rule.text = typed;
            int has = 0;
            Set<Character> known = new TreeSet<>();
            for (String condition : rule.conditions()) {
                if (isHas(condition)) {
                    has++;
                    known.addAll(variables(condition));
                } else if (isTest(condition)) {
                    if (!known.containsAll(variables(condition))) {
                        return false;
                    }
                } else if (condition.charAt(0) == '#') {
                    known.add(condition.charAt(1));
                } else if (condition.charAt(0) == '+') {
                    if (condition.substring(3).indexOf(condition.charAt(2)) < 0) {
                        return false;
                    }
                    known.add(condition.charAt(1));
                }
            }
            for (String act : rule.acts()) {
                if (act.charAt(0) == '-' && act.charAt(1) - '0' >= has || !known.containsAll(variables(act))) {
                    return false;
                }
            }
            return rule.conditions().length <= 5 && has <= 3 && rule.acts().length <= 3;
        }

        void change() {
            past.add(now.copy());
            if (past.size() > 6) {
                past.remove(0);
            }
        }

        int undo() {
            state(past.isEmpty());
            now = past.remove(past.size() - 1);
            return past.size();
        }

        int rule(int slot, int urgency, int module) {
            out(slot < 0 || slot > 5);
            bad(urgency < -9 || urgency > 9 || module < 0 || module > 2);
            state(now.rules[slot] != null);
            if (fault() != -1) {
                return -100 - fault();
            }
            if (!isFit()) {
                return -3;
            }
            change();
            Rule rule = new Rule();
            rule.id = rulesEver++;
            rule.text = typed;
            rule.urgency = urgency;
            rule.module = module;
            now.rules[slot] = rule;
            settle();
            return matches(slot, rule.conditions().length).size();
        }

        boolean hasRule(int slot) {
            return slot >= 0 && slot < 6 && now.rules[slot] != null;
        }

        int drop(int slot) {
            out(!hasRule(slot));
            change();
            now.rules[slot] = null;
            return settle();
        }

        static String shape(int[] a) {
            bad(a[0] < 0 || a[0] > 5);
            StringBuilder text = new StringBuilder();
            text.append((char) ('A' + a[0]));
            for (int i = 0; i < FIELDS[a[0]]; i++) {
                bad(a[i + 1] < 0 || a[i + 1] > 9);
                text.append(a[i + 1]);
            }
            return text.toString();
        }

        Fact alike(String text) {
            for (Fact fact : now.facts.values()) {
                if (fact.text.equals(text)) {
                    return fact;
                }
            }
            return null;
        }

        /** Null if it is full. */
        Fact come(String text) {
            Fact fact = alike(text);
            if (fact != null) {
                return fact;
            }
            if (now.facts.size() >= 16) {
                return null;
            }
            fact = new Fact();
            fact.number = now.came++;
            fact.text = text;
            fact.minute = now.minute;
            now.facts.put(fact.number, fact);
            crowd(fact.kind());
            return fact;
        }

        void go(int number) {
            now.facts.remove(number);
            for (Done done : now.done.values()) {
                done.reasonOf.remove(number);
            }
        }

        int crowd(int kind) {
            int went = 0;
            while (now.most[kind] > 0) {
                List<Integer> all = new ArrayList<>();
                for (Fact fact : now.facts.values()) {
                    if (fact.kind() == kind) {
                        all.add(fact.number);
                    }
                }
                if (all.size() <= now.most[kind]) {
                    break;
                }
                go(all.get(0));
                went++;
            }
            return went;
        }

        int expire() {
            List<Integer> old = new ArrayList<>();
            for (Fact fact : now.facts.values()) {
                int minutes = now.minutes[fact.kind()];
                if (minutes > 0 && now.minute - fact.minute >= minutes) {
                    old.add(fact.number);
                }
            }
            for (int number : old) {
                go(number);
            }
            return old.size();
        }

        int tell(int[] a) {
            String text = shape(a);
            if (alike(text) == null && now.facts.size() >= 16) {
                return -4;
            }
            change();
            Fact fact = come(text);
            fact.isTold = true;
            settle();
            return fact.number;
        }

        int take(int number) {
            out(!now.facts.containsKey(number));
            change();
            go(number);
            return 1 + settle();
        }

        int deny(int number) {
            out(!now.facts.containsKey(number));
            state(!now.facts.get(number).isTold);
            change();
            now.facts.get(number).isTold = false;
            return settle();
        }

        int window(int kind, int minutes, int most) {
            bad(kind < 0 || kind > 5 || minutes < 0 || minutes > 99 || most < 0 || most > 16);
            change();
            now.minutes[kind] = minutes;
            now.most[kind] = most;
            int went = expire();
            went += crowd(kind);
            return went + settle();
        }

        int pass(int minutes) {
            bad(minutes < 1 || minutes > 99);
            state(now.minute + minutes > 9999);
            change();
            now.minute += minutes;
            int went = expire();
            return went + settle();
        }

        int focus(int module) {
            bad(module < 0 || module > 2);
            state(now.stack.size() >= 5 || top() == module);
            change();
            now.stack.add(module);
            return now.stack.size();
        }

        int top() {
            return now.stack.get(now.stack.size() - 1);
        }

        Set<Integer> founded() {
            Set<Integer> all = new TreeSet<>();
            boolean isMore = true;
            while (isMore) {
                isMore = false;
                for (Fact fact : now.facts.values()) {
                    if (all.contains(fact.number)) {
                        continue;
                    }
                    boolean isSo = fact.isTold;
                    for (Done done : now.done.values()) {
                        isSo |= done.reasonOf.contains(fact.number) && all.containsAll(done.match.facts);
                    }
                    if (isSo) {
                        all.add(fact.number);
                        isMore = true;
                    }
                }
            }
            return all;
        }

        int settle() {
            int went = 0;
            while (true) {
                Set<String> holding = new TreeSet<>();
                for (int slot = 0; slot < 6; slot++) {
                    if (now.rules[slot] != null) {
                        for (Match match : matches(slot, now.rules[slot].conditions().length)) {
                            holding.add(match.name());
                        }
                    }
                }
                now.done.keySet().retainAll(holding);
                Set<Integer> unfounded = new TreeSet<>(now.facts.keySet());
                unfounded.removeAll(founded());
                if (unfounded.isEmpty()) {
                    return went;
                }
                for (int number : unfounded) {
                    go(number);
                    went++;
                }
            }
        }

        int rank(int number) {
            Map<Integer, Integer> ranks = new HashMap<>();
            for (Fact fact : now.facts.values()) {
                if (fact.isTold) {
                    ranks.put(fact.number, 0);
                }
            }
            for (int r = 0; r < 20; r++) {
                Map<Integer, Integer> more = new HashMap<>();
                for (Done done : now.done.values()) {
                    if (ranks.keySet().containsAll(done.match.facts)) {
                        for (int put : done.reasonOf) {
                            if (!ranks.containsKey(put)) {
                                more.put(put, r + 1);
                            }
                        }
                    }
                }
                ranks.putAll(more);
            }
            return ranks.getOrDefault(number, -1);
        }

        /** All partial matches of the first k conditions of the rule in that slot. */
        List<Match> matches(int slot, int k) {
            return matches(slot, k, new ArrayList<>(now.facts.values()));
        }

        List<Match> matches(int slot, int k, List<Fact> pool) {
            String[] conditions = now.rules[slot].conditions();
            Match none = new Match();
            none.slot = slot;
            none.rule = now.rules[slot].id;
            List<Match> all = new ArrayList<>();
            all.add(none);
            for (int i = 0; i < k; i++) {
                List<Match> longer = new ArrayList<>();
                for (Match match : all) {
                    if (isHas(conditions[i])) {
                        for (Fact fact : pool) {
                            Map<Character, Integer> values = fit(conditions[i], fact, match.values);
                            if (values != null) {
                                Match more = match.copy();
                                more.facts.add(fact.number);
                                more.values = values;
                                longer.add(more);
                            }
                        }
                    } else if (isSo(conditions[i], match)) {
                        longer.add(match);
                    }
                }
                all = longer;
            }
            return all;
        }

        /** The values of the variables of the atom, null if the fact does not fit. */
        static Map<Character, Integer> fit(String atom, Fact fact, Map<Character, Integer> values) {
            if (atom.charAt(0) != fact.text.charAt(0)) {
                return null;
            }
            for (int i = 1; i < atom.length(); i++) {
                char sign = atom.charAt(i);
                if (sign >= '0' && sign <= '9' && sign != fact.text.charAt(i)) {
                    return null;
                }
            }
            Map<Character, Integer> local = new HashMap<>(values);
            for (int i = 1; i < atom.length(); i++) {
                char sign = atom.charAt(i);
                int value = fact.text.charAt(i) - '0';
                if (sign == '_') {
                    continue;
                }
                if (!isVariable(sign)) {
                    if (sign - '0' != value) {
                        return null;
                    }
                } else if (local.containsKey(sign)) {
                    if (local.get(sign) != value) {
                        return null;
                    }
                } else {
                    local.put(sign, value);
                }
            }
            return local;
        }

        static int side(char sign, Map<Character, Integer> values) {
            return isVariable(sign) ? values.get(sign) : sign - '0';
        }

        boolean isSo(String condition, Match match) {
            if (isTest(condition)) {
                int left = side(condition.charAt(0), match.values);
                int right = side(condition.charAt(2), match.values);
                char relation = condition.charAt(1);
                return relation == '=' ? left == right : relation == '/' ? left != right : left < right;
            }
            char first = condition.charAt(0);
            String atom = condition.substring(first == '#' ? 2 : first == '+' ? 3 : 1);
            List<Fact> fitting = new ArrayList<>();
            boolean isAll = true;
            for (Fact fact : now.facts.values()) {
                if (fit(atom, fact, match.values) != null) {
                    fitting.add(fact);
                } else if (fact.text.charAt(0) == atom.charAt(0)) {
                    isAll = false;
                }
            }
            if (first == '!') {
                return fitting.isEmpty();
            }
            if (first == '?') {
                return !fitting.isEmpty();
            }
            if (first == '*') {
                return isAll;
            }
            int number = 0;
            for (Fact fact : fitting) {
                number += first == '#' ? 1 : fact.text.charAt(atom.indexOf(condition.charAt(2))) - '0';
            }
            match.numbers.add(number);
            char variable = condition.charAt(1);
            if (match.values.containsKey(variable)) {
                return match.values.get(variable) == number;
            }
            match.values.put(variable, number);
            return true;
        }

        List<Match> agenda() {
            List<Match> all = new ArrayList<>();
            for (int slot = 0; slot < 6; slot++) {
                if (now.rules[slot] != null) {
                    for (Match match : matches(slot, now.rules[slot].conditions().length)) {
                        if (!now.done.containsKey(match.name())) {
                            all.add(match);
                        }
                    }
                }
            }
            Comparator<Match> order = Comparator.comparingInt(m -> -now.rules[m.slot].urgency);
            order = order.thenComparingInt(m -> m.facts.isEmpty() ? 1 : -Collections.max(m.facts));
            order = order.thenComparingInt(m -> m.slot);
            order = order.thenComparing((m, n) -> Arrays.compare(ints(m.facts), ints(n.facts)));
            order = order.thenComparing((m, n) -> Arrays.compare(ints(m.numbers), ints(n.numbers)));
            all.sort(order);
            return all;
        }

        static int[] ints(List<Integer> all) {
            return all.stream().mapToInt(i -> i).toArray();
        }

        void make(Match match) {
            Rule rule = now.rules[match.slot];
            Done done = new Done();
            done.match = match;
            now.done.put(match.name(), done);
            now.doneEver++;
            boolean isDone = true;
            for (String act : rule.acts()) {
                char first = act.charAt(0);
                if (first >= 'A' && first <= 'F') {
                    isDone &= now.done.get(match.name()) == done;
                    if (isDone) {
                        Fact fact = come(put(act, match));
                        if (fact != null) {
                            done.reasonOf.add(fact.number);
                        }
                        settle();
                    }
                } else if (first == '.') {
                    Fact fact = come(put(act.substring(1), match));
                    if (fact != null) {
                        fact.isTold = true;
                    }
                    settle();
                } else if (first == '-') {
                    int number = match.facts.get(act.charAt(1) - '0');
                    if (now.facts.containsKey(number)) {
                        go(number);
                    }
                    settle();
                } else if (first == '$') {
                    now.written.add(side(act.charAt(1), match.values));
                    if (now.written.size() > 12) {
                        now.written.remove(0);
                    }
                } else if (first == '%') {
                    isStopped = true;
                } else if (now.stack.size() < 5 && top() != act.charAt(1) - '0') {
                    now.stack.add(act.charAt(1) - '0');
                }
            }
        }

        static String put(String atom, Match match) {
            StringBuilder text = new StringBuilder();
            text.append(atom.charAt(0));
            for (int i = 1; i < atom.length(); i++) {
                text.append(side(atom.charAt(i), match.values) % 10);
            }
            return text.toString();
        }

        /** The next match by the stack, null if there is none; then the stack is as it was. */
        Match next() {
            List<Match> agenda = agenda();
            for (int size = now.stack.size(); size >= 1; size--) {
                for (Match match : agenda) {
                    if (now.rules[match.slot].module == now.stack.get(size - 1)) {
                        return match;
                    }
                }
            }
            return null;
        }

        void pop(Match match) {
            while (top() != now.rules[match.slot].module) {
                now.stack.remove(now.stack.size() - 1);
            }
        }

        int step() {
            Match match = next();
            if (match == null) {
                return -1;
            }
            change();
            pop(match);
            make(match);
            return match.slot;
        }

        Match nextByLayers() {
            Match best = null;
            for (Match match : agenda()) {
                if (best == null || ruleLayer(match.slot) < ruleLayer(best.slot)) {
                    best = match;
                }
            }
            return best;
        }

        int run(int most, boolean isByLayers) {
            bad(most < 1 || most > 30);
            if (isByLayers && layers() == null) {
                return -6;
            }
            isStopped = false;
            int made = 0;
            while (made < most && !isStopped) {
                Match match = isByLayers ? nextByLayers() : next();
                if (match == null) {
                    break;
                }
                if (made == 0) {
                    change();
                }
                if (!isByLayers) {
                    pop(match);
                }
                make(match);
                made++;
            }
            return made;
        }

        String text(int slot) {
            out(slot < 0 || slot > 5);
            return now.rules[slot] == null ? "" : now.rules[slot].text;
        }

        int ofRule(int slot, int what) {
            out(!hasRule(slot));
            bad(what < 0 || what > 8);
            Rule rule = now.rules[slot];
            int has = 0;
            for (String condition : rule.conditions()) {
                has += isHas(condition) ? 1 : 0;
            }
            List<Match> holding = matches(slot, rule.conditions().length);
            int done = 0;
            for (Match match : holding) {
                done += now.done.containsKey(match.name()) ? 1 : 0;
            }
            Set<Integer> put = new TreeSet<>();
            for (Done one : now.done.values()) {
                if (one.match.slot == slot) {
                    put.addAll(one.reasonOf);
                }
            }
            int[] all = {rule.urgency, rule.module, rule.conditions().length, has, rule.acts().length,
                ruleLayer(slot), holding.size(), done, put.size()};
            return all[what];
        }

        int partials(int slot, int k) {
            out(!hasRule(slot));
            bad(k < 1 || k > now.rules[slot].conditions().length);
            return matches(slot, k).size();
        }

        int stuck(int slot) {
            out(!hasRule(slot));
            int k = 0;
            while (k < now.rules[slot].conditions().length && !matches(slot, k + 1).isEmpty()) {
                k++;
            }
            return k;
        }

        static String joined(List<Integer> all, String between) {
            StringBuilder text = new StringBuilder();
            for (int one : all) {
                text.append(text.length() > 0 ? between : "").append(one);
            }
            return text.toString();
        }

        String match(int nth) {
            bad(nth < 0);
            List<Match> agenda = agenda();
            if (nth >= agenda.size()) {
                return "";
            }
            Match match = agenda.get(nth);
            StringBuilder text = new StringBuilder();
            text.append(match.slot).append(':').append(joined(match.facts, ","));
            for (int number : match.numbers) {
                text.append(';').append(number);
            }
            return text.toString();
        }

        /** Tries all layers of rules from the least on: sets of rules that may lie at 0, then 1, and so on. */
        int[] layers() {
            int[] layers = new int[12];
            for (int round = 0; round < 400; round++) {
                boolean isRisen = false;
                for (int slot = 0; slot < 6; slot++) {
                    if (now.rules[slot] == null) {
                        continue;
                    }
                    for (String condition : now.rules[slot].conditions()) {
                        if (isTest(condition)) {
                            continue;
                        }
                        char first = condition.charAt(0);
                        int kind = condition.charAt(isHas(condition) ? 0 : first == '#' ? 2 : first == '+' ? 3 : 1) - 'A';
                        int due = layers[kind] + (isHas(condition) || first == '?' ? 0 : 1);
                        if (layers[6 + slot] < due) {
                            layers[6 + slot] = due;
                            isRisen = true;
                        }
                    }
                    for (String act : now.rules[slot].acts()) {
                        String atom = act.charAt(0) == '.' ? act.substring(1) : act;
                        if (isHas(atom) && layers[atom.charAt(0) - 'A'] < layers[6 + slot]) {
                            layers[atom.charAt(0) - 'A'] = layers[6 + slot];
                            isRisen = true;
                        }
                    }
                }
                if (!isRisen) {
                    return layers;
                }
            }
            return null;
        }

        int ruleLayer(int slot) {
            int[] layers = layers();
            return layers == null ? -1 : layers[6 + slot];
        }

        int layer(int kind) {
            bad(kind < 0 || kind > 5);
            int[] layers = layers();
            return layers == null ? -1 : layers[kind];
        }

        int find(int[] a) {
            Fact fact = alike(shape(a));
            return fact == null ? -1 : fact.number;
        }

        int ofFact(int number, int what) {
            out(!now.facts.containsKey(number));
            bad(what < 0 || what > 7);
            Fact fact = now.facts.get(number);
            int reasons = 0;
            for (Done done : now.done.values()) {
                reasons += done.reasonOf.contains(number) ? 1 : 0;
            }
            int[] all = {fact.kind(), fact.field(0), fact.field(1), fact.field(2), fact.minute, fact.isTold ? 1 : 0,
                reasons, rank(number)};
            return all[what];
        }

        String facts(int kind) {
            bad(kind < -1 || kind > 5);
            StringBuilder text = new StringBuilder();
            for (Fact fact : now.facts.values()) {
                if (kind == -1 || fact.kind() == kind) {
                    text.append(text.length() > 0 ? " " : "").append(fact.text);
                }
            }
            return text.toString();
        }

        String why(int number, int depth) {
            out(!now.facts.containsKey(number));
            bad(depth < 0 || depth > 4);
            return whyOf(number, depth);
        }

        String whyOf(int number, int depth) {
            Fact fact = now.facts.get(number);
            if (fact.isTold) {
                return fact.text + "!";
            }
            if (depth <= 0) {
                return fact.text;
            }
            int rank = rank(number);
            Match best = null;
            for (Done done : now.done.values()) {
                boolean isSo = done.reasonOf.contains(number);
                for (int of : done.match.facts) {
                    isSo &= rank(of) < rank;
                }
                if (isSo && (best == null || isAhead(done.match, best))) {
                    best = done.match;
                }
            }
            StringBuilder text = new StringBuilder(fact.text);
            text.append('(').append(best.slot);
            for (int of : best.facts) {
                text.append(' ').append(whyOf(of, depth - 1));
            }
            return text.append(')').toString();
        }

        static boolean isAhead(Match one, Match other) {
            if (one.slot != other.slot) {
                return one.slot < other.slot;
            }
            int facts = Arrays.compare(ints(one.facts), ints(other.facts));
            return facts != 0 ? facts < 0 : Arrays.compare(ints(one.numbers), ints(other.numbers)) < 0;
        }

        int could(int[] a) {
            String asked = shape(a);
            bad(a[4] < 0 || a[4] > 3);
            Set<String> pool = new LinkedHashSet<>();
            for (Fact fact : now.facts.values()) {
                pool.add(fact.text);
            }
            for (int round = 0; round < a[4]; round++) {
                List<Fact> facts = new ArrayList<>();
                for (String text : pool) {
                    Fact fact = new Fact();
                    fact.text = text;
                    facts.add(fact);
                }
                for (int slot = 0; slot < 6; slot++) {
                    if (now.rules[slot] != null && !putsNothing(slot)) {
                        for (Match match : matches(slot, now.rules[slot].conditions().length, facts)) {
                            for (String act : now.rules[slot].acts()) {
                                if (isHas(act)) {
                                    pool.add(put(act, match));
                                }
                            }
                        }
                    }
                }
                if (pool.size() > 40) {
                    return -5;
                }
            }
            return pool.contains(asked) ? 1 : 0;
        }

        boolean putsNothing(int slot) {
            for (String act : now.rules[slot].acts()) {
                if (isHas(act)) {
                    return false;
                }
            }
            return true;
        }

        int house(int what) {
            bad(what < 0 || what > 12);
            int rules = 0;
            Set<String> nodes = new TreeSet<>();
            for (int slot = 0; slot < 6; slot++) {
                if (now.rules[slot] != null) {
                    rules++;
                    String beginning = "";
                    for (String condition : now.rules[slot].conditions()) {
                        beginning += condition + ",";
                        nodes.add(beginning);
                    }
                }
            }
            switch (what) {
                case 0: return now.facts.size();
                case 1: return now.came;
                case 2: return agenda().size();
                case 3: return now.done.size();
                case 4: return now.stack.size();
                case 5: return top();
                case 6: return now.minute;
                case 7: return rules;
                case 8: return nodes.size();
                case 9: return typed.length();
                case 10: return past.size();
                case 11: return now.doneEver;
                default: return knocked;
            }
        }

        long digest() {
            long d = 5906;
            for (int what = 0; what <= 12; what++) {
                d = d * 31 + house(what);
            }
            for (int number : now.facts.keySet()) {
                d = d * 31 + number;
                for (int what = 0; what <= 7; what++) {
                    d = d * 31 + ofFact(number, what);
                }
                d = d * 31 + why(number, 3).length();
            }
            for (int slot = 0; slot < 6; slot++) {
                if (now.rules[slot] != null) {
                    d = d * 31 + slot;
                    for (int what = 0; what <= 8; what++) {
                        d = d * 31 + ofRule(slot, what);
                    }
                    for (int k = 1; k <= now.rules[slot].conditions().length; k++) {
                        d = d * 31 + partials(slot, k);
                    }
                    d = d * 31 + stuck(slot);
                }
            }
            d = d * 31 + match(0).length();
            for (int kind = 0; kind < 6; kind++) {
                d = d * 31 + layer(kind);
            }
            d = d * 31 + fault();
            d = d * 31 + could(new int[] {0, 1, 0, 0, 1});
            d = d * 31 + could(new int[] {1, 1, 2, 0, 1});
            d = d * 31 + joined(now.written, " ").length();
            return d * 31 + 1;
        }
    }
}

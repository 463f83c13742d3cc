import java.util.Arrays;

/**
 * Facts and rules: rules are typed sign by sign and put into slots; facts are told, put by rules,
 * and go; what rules say is done match by match; the last changes can be undone.
 */
public final class Ruleengine {
    private static final int NONE = -1;
    private static final int UNFIT = -3;
    private static final int FULL = -4;
    private static final int MANY = -5;
    private static final int RING = -6;
    private static final int FAULT = -100;

    private static final int KINDS = 6;
    private static final int FIELDS_MOST = 3;
    private static final int[] FIELDS = {1, 2, 2, 3, 1, 2};
    private static final int[] SHAPE_BASE = {0, 10, 110, 210, 1210, 1220};
    private static final int SHAPES = 1320;
    private static final int VALUES = 10;
    private static final int STANDING_MOST = 16;
    private static final int MINUTE_MOST = 9999;
    private static final int PASS_MOST = 99;

    private static final int SLOTS = 6;
    private static final int ALL_SLOTS = 63;
    private static final int MODULES = 3;
    private static final int URGENCY_MOST = 9;
    private static final int CONDITIONS_MOST = 5;
    private static final int HAS_MOST = 3;
    private static final int ACTS_MOST = 3;
    private static final int VARIABLES = 6;

    private static final int STACK_MOST = 5;
    private static final int WRITTEN_MOST = 12;
    private static final int RUN_MOST = 30;
    private static final int DEPTH_MOST = 4;
    private static final int ROUNDS_MOST = 3;
    private static final int COULD_MOST = 40;
    private static final int PAST_MOST = 6;
    private static final int DIGEST_START = 5906;

    private static final String SIGNS = "0123456789ABCDEFuvwxyz_!?*#+=/<,>.-$%@";
    private static final int SIGNS_MOST = 60;
    private static final int LETTER_A = 10;
    private static final int VARIABLE_U = 16;
    private static final int BLANK = 22;
    private static final int BANG = 23;
    private static final int PLUS = 27;
    private static final int EQUAL = 28;
    private static final int LESS = 30;
    private static final int COMMA = 31;
    private static final int ARROW = 32;
    private static final int POINT = 33;
    private static final int CURL = 37;
    private static final int EMPTIES = 38;
    private static final int BACK = 39;

    /** Sorts of conditions; from NOT to SUM it is the code of the first sign, less BLANK. */
    private static final int HAS = 0;
    private static final int NOT = 1;
    private static final int SOME = 2;
    private static final int ALL = 3;
    private static final int COUNT = 4;
    private static final int SUM = 5;
    private static final int TEST = 6;

    /** Sorts of acts; from TELL on it is the code of the first sign, less ARROW. */
    private static final int PUT = 0;
    private static final int TELL = 1;
    private static final int TAKE = 2;
    private static final int WRITE = 3;
    private static final int STOP = 4;
    private static final int FOCUS = 5;

    private final State state;
    private final Matches matches;
    private final Work work;
    private final Coulds coulds;
    private final Layers layers;
    private final Reader reader;
    private final Fact asked;
    private final State[] past;
    private int pastStart;
    private int pastCount;
    private int knocked;
    private final StringBuilder line;

    /** An engine without facts and rules. */
    public Ruleengine() {
        state = new State();
        matches = new Matches(state);
        work = new Work(state, matches);
        coulds = new Coulds(state);
        layers = new Layers();
        reader = new Reader();
        asked = new Fact();
        past = new State[PAST_MOST];
        line = new StringBuilder();
    }

    public int say(int a, int b, int c, int d, int e, int f)
            throws IllegalArgumentException, IllegalStateException {
        if (!isCode(a) || !isCode(b) || !isCode(c) || !isCode(d) || !isCode(e) || !isCode(f)) {
            throw new IllegalArgumentException("a code is not -1 to 39");
        }
        int count = countAfter(countAfter(countAfter(reader.count, a), b), c);
        if (countAfter(countAfter(countAfter(count, d), e), f) > SIGNS_MOST) {
            throw new IllegalStateException("more than 60 signs");
        }
        reader.type(a);
        reader.type(b);
        reader.type(c);
        reader.type(d);
        reader.type(e);
        reader.type(f);
        return reader.count;
    }

    public int rule(int slot, int urgency, int module)
            throws IndexOutOfBoundsException, IllegalArgumentException, IllegalStateException {
        if (!isSlot(slot)) {
            throw new IndexOutOfBoundsException("no such slot");
        }
        if (urgency < -URGENCY_MOST || urgency > URGENCY_MOST || !isModule(module)) {
            throw new IllegalArgumentException("no such urgency or module");
        }
        if (state.rule[slot] != null) {
            throw new IllegalStateException("there is a rule in it");
        }
        int fault = reader.read();
        if (fault != NONE) {
            return FAULT - fault;
        }
        if (reader.isUnfit) {
            return UNFIT;
        }
        remember();
        state.rule[slot] = reader.handOver(urgency, module);
        matches.renew(slot);
        matches.refresh(slot);
        return matches.foundCount[slot];
    }

    public int drop(int slot) throws IndexOutOfBoundsException {
        if (!hasRule(slot)) {
            throw new IndexOutOfBoundsException("no such slot, or no rule in it");
        }
        remember();
        matches.markAll(1 << slot, false);
        state.rule[slot] = null;
        matches.renew(slot);
        return work.settle();
    }

    public int tell(int kind, int a, int b, int c) throws IllegalArgumentException {
        if (!isShape(kind, a, b, c)) {
            throw new IllegalArgumentException("no such fact");
        }
        asked.shape(kind, a, b, c);
        if (state.placeAlike(asked) == NONE && state.freePlace() == NONE) {
            return FULL;
        }
        remember();
        int place = work.bring(asked);
        if (place == NONE) {
            return FULL;
        }
        state.fact[place].isTold = true;
        int number = state.fact[place].number;
        work.settle();
        return number;
    }

    public int take(int fact) throws IndexOutOfBoundsException {
        int place = state.placeOf(fact);
        if (place == NONE) {
            throw new IndexOutOfBoundsException("no such fact stands");
        }
        remember();
        work.leave(1 << place);
        return 1 + work.settle();
    }

    public int deny(int fact) throws IndexOutOfBoundsException, IllegalStateException {
        int place = state.placeOf(fact);
        if (place == NONE) {
            throw new IndexOutOfBoundsException("no such fact stands");
        }
        if (!state.fact[place].isTold) {
            throw new IllegalStateException("it is not told");
        }
        remember();
        state.fact[place].isTold = false;
        return work.settle();
    }

    public int window(int kind, int minutes, int most) throws IllegalArgumentException {
        if (!isKind(kind) || minutes < 0 || minutes > PASS_MOST || most < 0 || most > STANDING_MOST) {
            throw new IllegalArgumentException("no such window");
        }
        remember();
        state.windowMinutes[kind] = minutes;
        state.windowMost[kind] = most;
        int went = work.leave(state.overMinutes());
        went += work.leave(state.overMost(kind));
        return went + work.settle();
    }

    public int pass(int minutes) throws IllegalArgumentException, IllegalStateException {
        if (minutes < 1 || minutes > PASS_MOST) {
            throw new IllegalArgumentException("minutes are not 1 to 99");
        }
        if (state.minute + minutes > MINUTE_MOST) {
            throw new IllegalStateException("the minute would be above 9999");
        }
        remember();
        state.minute += minutes;
        int went = work.leave(state.overMinutes());
        return went + work.settle();
    }

    public int focus(int module) throws IllegalArgumentException, IllegalStateException {
        if (!isModule(module)) {
            throw new IllegalArgumentException("no such module");
        }
        if (!state.canPush(module)) {
            throw new IllegalStateException("the stack has 5, or it is the top");
        }
        remember();
        state.push(module);
        return state.stackSize;
    }

    public int step() {
        return advance(false, true);
    }

    public int run(int most, boolean isByLayers) throws IllegalArgumentException {
        if (most < 1 || most > RUN_MOST) {
            throw new IllegalArgumentException("the most is not 1 to 30");
        }
        if (isByLayers) {
            layers.measure(state.rule);
            if (layers.isRing) {
                return RING;
            }
        }
        work.isStopped = false;
        int made = 0;
        while (made < most && !work.isStopped) {
            if (advance(isByLayers, made == 0) == NONE) {
                break;
            }
            made++;
        }
        return made;
    }

    public int undo() throws IllegalStateException {
        if (pastCount <= 0) {
            throw new IllegalStateException("nothing to undo");
        }
        pastCount--;
        State last = past[(pastStart + pastCount) % PAST_MOST];
        if (last != null) {
            matches.markAll(ALL_SLOTS, false);
            state.copyFrom(last);
            matches.renewAll();
            matches.markAll(ALL_SLOTS, true);
        }
        return pastCount;
    }

    public int knock() {
        knocked++;
        return knocked;
    }

    public String typed() {
        return reader.textOf();
    }

    public int fault() {
        return reader.read();
    }

    public boolean isFit() {
        return reader.read() == NONE && !reader.isUnfit;
    }

    public String text(int slot) throws IndexOutOfBoundsException {
        if (!isSlot(slot)) {
            throw new IndexOutOfBoundsException("no such slot");
        }
        Rule rule = state.rule[slot];
        return rule == null ? "" : rule.typedAs;
    }

    public int ofRule(int slot, int what) throws IndexOutOfBoundsException, IllegalArgumentException {
        if (!hasRule(slot)) {
            throw new IndexOutOfBoundsException("no such slot, or no rule in it");
        }
        if (what < 0 || what > 8) {
            throw new IllegalArgumentException("what is not 0 to 8");
        }
        Rule rule = state.rule[slot];
        switch (what) {
            case 0: return rule.urgency;
            case 1: return rule.module;
            case 2: return rule.conditionCount;
            case 3: return rule.hasCount;
            case 4: return rule.actCount;
            case 5:
                layers.measure(state.rule);
                return layers.ofRule[slot];
            case 6:
                matches.refresh(slot);
                return matches.foundCount[slot];
            case 7: return state.doneIn(slot);
            default: return Integer.bitCount(state.putBy(slot));
        }
    }

    public int partials(int slot, int k) throws IndexOutOfBoundsException, IllegalArgumentException {
        if (!hasRule(slot)) {
            throw new IndexOutOfBoundsException("no such slot, or no rule in it");
        }
        if (k < 1 || k > state.rule[slot].conditionCount) {
            throw new IllegalArgumentException("it has not so many conditions");
        }
        matches.refresh(slot);
        return matches.partial[slot][k - 1];
    }

    public int stuck(int slot) throws IndexOutOfBoundsException {
        if (!hasRule(slot)) {
            throw new IndexOutOfBoundsException("no such slot, or no rule in it");
        }
        matches.refresh(slot);
        int reached = 0;
        for (int k = 1; k <= state.rule[slot].conditionCount; k++) {
            if (matches.partial[slot][k - 1] > 0) {
                reached = k;
            }
        }
        return reached;
    }

    public String match(int nth) throws IllegalArgumentException {
        if (nth < 0) {
            throw new IllegalArgumentException("nth is below 0");
        }
        line.setLength(0);
        writeMatch(matches.nth(nth));
        return line.toString();
    }

    public int layer(int kind) throws IllegalArgumentException {
        if (!isKind(kind)) {
            throw new IllegalArgumentException("no such kind");
        }
        layers.measure(state.rule);
        return layers.ofKind[kind];
    }

    public int find(int kind, int a, int b, int c) throws IllegalArgumentException {
        if (!isShape(kind, a, b, c)) {
            throw new IllegalArgumentException("no such fact");
        }
        asked.shape(kind, a, b, c);
        int place = state.placeAlike(asked);
        return place == NONE ? NONE : state.fact[place].number;
    }

    public int ofFact(int fact, int what) throws IndexOutOfBoundsException, IllegalArgumentException {
        int place = state.placeOf(fact);
        if (place == NONE) {
            throw new IndexOutOfBoundsException("no such fact stands");
        }
        if (what < 0 || what > 7) {
            throw new IllegalArgumentException("what is not 0 to 7");
        }
        Fact found = state.fact[place];
        switch (what) {
            case 0: return found.kind;
            case 1: return found.value[0];
            case 2: return found.value[1];
            case 3: return found.value[2];
            case 4: return found.minute;
            case 5: return found.isTold ? 1 : 0;
            case 6: return state.reasonsOf(place);
            default:
                work.rankAll();
                return work.rank[place];
        }
    }

    public String facts(int kind) throws IllegalArgumentException {
        if (kind != NONE && !isKind(kind)) {
            throw new IllegalArgumentException("kind is not -1 to 5");
        }
        line.setLength(0);
        matches.ageAll();
        for (int i = 0; i < matches.aged; i++) {
            Fact fact = state.fact[matches.placeByAge[i]];
            if (kind == NONE || fact.kind == kind) {
                if (line.length() > 0) {
                    line.append(' ');
                }
                fact.write(line);
            }
        }
        return line.toString();
    }

    public String why(int fact, int depth) throws IndexOutOfBoundsException, IllegalArgumentException {
        int place = state.placeOf(fact);
        if (place == NONE) {
            throw new IndexOutOfBoundsException("no such fact stands");
        }
        if (depth < 0 || depth > DEPTH_MOST) {
            throw new IllegalArgumentException("depth is not 0 to 4");
        }
        line.setLength(0);
        work.rankAll();
        writeWhy(place, depth);
        return line.toString();
    }

    public int could(int kind, int a, int b, int c, int rounds) throws IllegalArgumentException {
        if (!isShape(kind, a, b, c) || rounds < 0 || rounds > ROUNDS_MOST) {
            throw new IllegalArgumentException("no such fact, or rounds are not 0 to 3");
        }
        coulds.gather(rounds);
        return couldBe(kind, a, b, c);
    }

    public String written() {
        line.setLength(0);
        writeWritten();
        return line.toString();
    }

    public int house(int what) throws IllegalArgumentException {
        if (what < 0 || what > 12) {
            throw new IllegalArgumentException("what is not 0 to 12");
        }
        switch (what) {
            case 0: return Integer.bitCount(state.standing());
            case 1: return state.came;
            case 2: return matches.agendaCount();
            case 3: return state.doneCount;
            case 4: return state.stackSize;
            case 5: return state.top();
            case 6: return state.minute;
            case 7: return state.ruleCount();
            case 8: return nodeCount();
            case 9: return reader.count;
            case 10: return pastCount;
            case 11: return state.doneEver;
            default: return knocked;
        }
    }

    public boolean isSound() {
        int listed = matches.listAgenda();
        return isWithinBounds() && state.isWithinBounds() && state.isUnlike()
                && work.rankAll() == state.standing() && matches.isDoneHeld()
                && matches.isAllFound() && listed == matches.agendaCount() && matches.isOrdered(listed);
    }

    public long digest() {
        long d = DIGEST_START;
        for (int what = 0; what <= 12; what++) {
            d = d * 31 + house(what);
        }
        matches.ageAll();
        for (int i = 0; i < matches.aged; i++) {
            d = withFact(d, matches.placeByAge[i]);
        }
        for (int slot = 0; slot < SLOTS; slot++) {
            if (hasRule(slot)) {
                d = withRule(d, slot);
            }
        }
        line.setLength(0);
        writeMatch(matches.nth(0));
        d = d * 31 + line.length();
        for (int kind = 0; kind < KINDS; kind++) {
            d = d * 31 + layer(kind);
        }
        d = d * 31 + reader.read();
        coulds.gather(1);
        d = d * 31 + couldBe(0, 1, 0, 0);
        d = d * 31 + couldBe(1, 1, 2, 0);
        line.setLength(0);
        writeWritten();
        d = d * 31 + line.length();
        return d * 31 + (isSound() ? 1 : 0);
    }

    /** By what was gathered last. */
    private int couldBe(int kind, int a, int b, int c) {
        if (coulds.isEnough) {
            return MANY;
        }
        asked.shape(kind, a, b, c);
        return coulds.isAmong(asked) ? 1 : 0;
    }

    private long withFact(long before, int place) {
        int number = state.fact[place].number;
        long d = before * 31 + number;
        for (int what = 0; what <= 7; what++) {
            d = d * 31 + ofFact(number, what);
        }
        line.setLength(0);
        writeWhy(place, 3);
        return d * 31 + line.length();
    }

    private long withRule(long before, int slot) {
        long d = before * 31 + slot;
        for (int what = 0; what <= 8; what++) {
            d = d * 31 + ofRule(slot, what);
        }
        for (int k = 1; k <= state.rule[slot].conditionCount; k++) {
            d = d * 31 + partials(slot, k);
        }
        return d * 31 + stuck(slot);
    }

    /** Does the next match, if there is one; the state is remembered ahead of the first of a call. */
    private int advance(boolean isByLayers, boolean isFirst) {
        int size = state.stackSize;
        int best = NONE;
        if (isByLayers) {
            for (int least = 0; least <= SLOTS && best == NONE; least++) {
                best = matches.best(layers.slotsIn(least));
            }
        } else {
            best = matches.best(state.slotsOf(state.moduleAt(size)));
            while (best == NONE && size > 1) {
                size--;
                best = matches.best(state.slotsOf(state.moduleAt(size)));
            }
        }
        if (best == NONE) {
            return NONE;
        }
        if (isFirst) {
            remember();
        }
        state.stackSize = size;
        int slot = matches.slotIn(best);
        work.doMatch(slot, matches.keyIn(best));
        return slot;
    }

    private void remember() {
        int at = (pastStart + pastCount) % PAST_MOST;
        if (pastCount < PAST_MOST) {
            pastCount++;
        } else {
            pastStart = (pastStart + 1) % PAST_MOST;
        }
        if (past[at] == null) {
            past[at] = new State();
        }
        past[at].copyFrom(state);
    }

    private void writeMatch(int order) {
        if (order == NONE) {
            return;
        }
        int slot = matches.slotIn(order);
        Rule rule = state.rule[slot];
        if (rule == null) {
            return;
        }
        long signature = matches.signature(rule, matches.keyIn(order));
        if (signature == NONE) {
            return;
        }
        line.append(slot).append(':');
        for (int h = 0; h < rule.hasCount; h++) {
            if (h > 0) {
                line.append(',');
            }
            line.append(state.fact[rule.placeIn(signature, h)].number);
        }
        for (int c = 0; c < rule.conditionCount; c++) {
            int sort = rule.condition[c].sort;
            if (sort == COUNT || sort == SUM) {
                line.append(';').append(Rule.numberIn(signature, c));
            }
        }
    }

    /** Needs the ranks as they are now. */
    private void writeWhy(int place, int depth) {
        Fact fact = state.fact[place];
        fact.write(line);
        if (fact.isTold) {
            line.append('!');
            return;
        }
        int reason = depth > 0 ? work.firstReason(place) : NONE;
        if (reason == NONE) {
            return;
        }
        long word = state.done[reason];
        int slot = State.slotIn(word);
        Rule rule = state.rule[slot];
        line.append('(').append(slot);
        for (int h = 0; rule != null && h < rule.hasCount; h++) {
            line.append(' ');
            writeWhy(rule.placeIn(State.signatureIn(word), h), depth - 1);
        }
        line.append(')');
    }

    private void writeWritten() {
        for (int i = 0; i < state.writtenCount; i++) {
            if (i > 0) {
                line.append(' ');
            }
            line.append(state.written[i]);
        }
    }

    private int nodeCount() {
        int nodes = 0;
        for (int slot = 0; slot < SLOTS; slot++) {
            Rule rule = state.rule[slot];
            for (int c = 0; rule != null && c < rule.conditionCount; c++) {
                if (!isNodeAhead(slot, c)) {
                    nodes++;
                }
            }
        }
        return nodes;
    }

    private boolean isNodeAhead(int slot, int c) {
        for (int other = 0; other < slot; other++) {
            Rule rule = state.rule[other];
            if (rule != null && rule.isAlikeTo(state.rule[slot], c)) {
                return true;
            }
        }
        return false;
    }

    private boolean isWithinBounds() {
        return pastCount >= 0 && pastCount <= PAST_MOST && reader.count >= 0 && reader.count <= SIGNS_MOST;
    }

    private boolean hasRule(int slot) {
        return isSlot(slot) && state.rule[slot] != null;
    }

    private static boolean isSlot(int slot) {
        return slot >= 0 && slot < SLOTS;
    }

    private static boolean isModule(int module) {
        return module >= 0 && module < MODULES;
    }

    private static boolean isKind(int kind) {
        return kind >= 0 && kind < KINDS;
    }

    private static boolean isCode(int code) {
        return code >= NONE && code <= BACK;
    }

    private static boolean isValue(int value) {
        return value >= 0 && value < VALUES;
    }

    private static boolean isVariable(int sign) {
        return sign >= VARIABLE_U && sign < BLANK;
    }

    private static boolean isShape(int kind, int a, int b, int c) {
        return isKind(kind) && isValue(a) && (FIELDS[kind] < 2 || isValue(b)) && (FIELDS[kind] < 3 || isValue(c));
    }

    /** A count beyond the most stays so, whatever comes behind it: at that moment it was too much. */
    private static int countAfter(int count, int code) {
        if (count > SIGNS_MOST || code == NONE) {
            return count;
        }
        if (code == EMPTIES) {
            return 0;
        }
        if (code == BACK) {
            return count > 0 ? count - 1 : 0;
        }
        return count + 1;
    }

    /** What a digit or a variable stands for. */
    private static int worthOf(int side, int[] values) {
        return side >= VARIABLE_U && side < BLANK ? values[side - VARIABLE_U] : side;
    }

    /** A fact; without a kind it is a free place for one. */
    private static final class Fact {
        int number;
        int kind = NONE;
        final int[] value = new int[FIELDS_MOST];
        int minute;
        boolean isTold;

        void shape(int newKind, int a, int b, int c) {
            kind = newKind;
            value[0] = a;
            value[1] = FIELDS[newKind] > 1 ? b : NONE;
            value[2] = FIELDS[newKind] > 2 ? c : NONE;
        }

        void shapeBy(Atom atom, int[] values) {
            shape(atom.kind, worthOf(atom.sign[0], values) % VALUES, worthOf(atom.sign[1], values) % VALUES,
                    worthOf(atom.sign[2], values) % VALUES);
        }

        void copyFrom(Fact other) {
            number = other.number;
            kind = other.kind;
            value[0] = other.value[0];
            value[1] = other.value[1];
            value[2] = other.value[2];
            minute = other.minute;
            isTold = other.isTold;
        }

        boolean isAlike(Fact other) {
            return kind == other.kind && value[0] == other.value[0] && value[1] == other.value[1]
                    && value[2] == other.value[2];
        }

        /** Its number among all that facts can look like. */
        int shapeNumber() {
            int digits = 0;
            for (int i = 0; i < FIELDS[kind]; i++) {
                digits = digits * VALUES + value[i];
            }
            return SHAPE_BASE[kind] + digits;
        }

        void write(StringBuilder line) {
            line.append((char) ('A' + kind));
            for (int i = 0; i < FIELDS[kind]; i++) {
                line.append(value[i]);
            }
        }
    }

    private static final class Atom {
        int kind;
        final int[] sign = new int[FIELDS_MOST];
        /** As sign, but BLANK for variables that have no value ahead. */
        final int[] want = new int[FIELDS_MOST];
        boolean isFirstSecond;
        boolean isFirstThird;
        boolean isSecondThird;

        void compile(int known) {
            for (int i = 0; i < FIELDS_MOST; i++) {
                boolean isOpen = isVariable(sign[i]) && (known >> (sign[i] - VARIABLE_U) & 1) == 0;
                want[i] = isOpen || i >= FIELDS[kind] ? BLANK : sign[i];
            }
            isFirstSecond = isSameVariable(0, 1);
            isFirstThird = isSameVariable(0, 2);
            isSecondThird = isSameVariable(1, 2);
        }

        private boolean isSameVariable(int i, int j) {
            return j < FIELDS[kind] && isVariable(sign[i]) && sign[i] == sign[j];
        }

        /** The variables of it, one bit for each. */
        int variables() {
            int mask = 0;
            for (int i = 0; i < FIELDS[kind]; i++) {
                if (isVariable(sign[i])) {
                    mask |= 1 << (sign[i] - VARIABLE_U);
                }
            }
            return mask;
        }

        /** The first field with that variable; NONE if it is not there. */
        int fieldOf(int variable) {
            for (int i = 0; i < FIELDS[kind]; i++) {
                if (sign[i] == variable) {
                    return i;
                }
            }
            return NONE;
        }

        boolean fits(Fact fact, int[] values) {
            if (fact.kind != kind) {
                return false;
            }
            for (int i = 0; i < FIELDS_MOST; i++) {
                int wanted = want[i];
                if (wanted >= VARIABLE_U && wanted < BLANK) {
                    wanted = values[wanted - VARIABLE_U];
                } else if (wanted == BLANK) {
                    wanted = fact.value[i];
                }
                if (wanted != fact.value[i]) {
                    return false;
                }
            }
            return (!isFirstSecond || fact.value[0] == fact.value[1])
                    && (!isFirstThird || fact.value[0] == fact.value[2])
                    && (!isSecondThird || fact.value[1] == fact.value[2]);
        }

        /** Gives its variables the values of a fact that fits. */
        void bind(Fact fact, int[] values) {
            for (int i = 0; i < FIELDS[kind]; i++) {
                if (isVariable(sign[i])) {
                    values[sign[i] - VARIABLE_U] = fact.value[i];
                }
            }
        }
    }

    /** A condition or an act; what a sort does not need stays unused. */
    private static final class Part {
        int sort;
        final Atom atom = new Atom();
        int left;
        int right;
        int relation;
        /** Whether the variable of a count or sum has no value ahead. */
        boolean isNew;
        /** The field that is summed, the number of a take, the module of a focus. */
        int at;
    }

    private static final class Rule {
        String typedAs = "";
        int urgency;
        int module;
        final Part[] condition = new Part[CONDITIONS_MOST];
        final int[] end = new int[CONDITIONS_MOST];
        int conditionCount;
        final int[] hasAt = new int[HAS_MOST];
        int hasCount;
        final Part[] act = new Part[ACTS_MOST];
        int actCount;
        int kinds;

        Rule() {
            for (int i = 0; i < CONDITIONS_MOST; i++) {
                condition[i] = new Part();
            }
            for (int i = 0; i < ACTS_MOST; i++) {
                act[i] = new Part();
            }
        }

        void clear() {
            conditionCount = 0;
            hasCount = 0;
            actCount = 0;
            kinds = 0;
        }

        /** A signature has a byte for each condition: the place of a fact, or the number of a count or sum. */
        static int numberIn(long signature, int c) {
            return (int) (signature >> 8 * c) & 255;
        }

        int placeIn(long signature, int h) {
            return (int) (signature >> 8 * hasAt[h]) & 15;
        }

        /** The places of the facts of a match in one number, those of the first HAS weighing most. */
        int keyOf(long signature) {
            int key = 0;
            for (int h = 0; h < hasCount; h++) {
                key = key * STANDING_MOST + placeIn(signature, h);
            }
            return key;
        }

        int keyCount() {
            return 1 << 4 * hasCount;
        }

        int placesOf(long signature) {
            int mask = 0;
            for (int h = 0; h < hasCount; h++) {
                mask |= 1 << placeIn(signature, h);
            }
            return mask;
        }

        /** Whether it begins as the other one does up to its condition c. */
        boolean isAlikeTo(Rule other, int c) {
            if (other == null || c >= conditionCount || end[c] != other.end[c]) {
                return false;
            }
            for (int i = 0; i < end[c]; i++) {
                if (typedAs.charAt(i) != other.typedAs.charAt(i)) {
                    return false;
                }
            }
            return true;
        }
    }

    /** What is typed, and how it is read. */
    private static final class Reader {
        final int[] sign = new int[SIGNS_MOST];
        int count;
        boolean isUnfit;
        private int place;
        private boolean isBroken;
        private int known;
        private Rule draft = new Rule();
        private final Part spare = new Part();
        private final StringBuilder line = new StringBuilder();

        void type(int code) {
            int after = countAfter(count, code);
            if (after > count && count < SIGNS_MOST) {
                sign[count] = code;
            }
            count = Math.min(after, SIGNS_MOST);
        }

        String textOf() {
            line.setLength(0);
            for (int i = 0; i < count; i++) {
                line.append(SIGNS.charAt(sign[i]));
            }
            return line.toString();
        }

        /** The rule that was read; the next one is read into another. */
        Rule handOver(int urgency, int module) {
            Rule rule = draft;
            rule.typedAs = textOf();
            rule.urgency = urgency;
            rule.module = module;
            draft = new Rule();
            return rule;
        }

        /** Reads what is typed; answers the place of the fault, or NONE. */
        int read() {
            place = 0;
            isBroken = false;
            isUnfit = false;
            known = 0;
            draft.clear();
            readCondition();
            while (!isBroken && place < count && sign[place] == COMMA) {
                place++;
                readCondition();
            }
            expect(ARROW, ARROW);
            readAct();
            while (!isBroken && place < count && sign[place] == COMMA) {
                place++;
                readAct();
            }
            return isBroken || place < count ? place : NONE;
        }

        private int next() {
            return place < count ? sign[place] : NONE;
        }

        /** The next sign, if it is one of these; otherwise the reading stays there. */
        private int expect(int least, int most) {
            int found = next();
            if (isBroken || found < least || found > most) {
                isBroken = true;
                return least;
            }
            place++;
            return found;
        }

        private int expectSide() {
            return next() < VALUES ? expect(0, VALUES - 1) : expect(VARIABLE_U, BLANK - 1);
        }

        private int expectVariable() {
            return expect(VARIABLE_U, BLANK - 1);
        }

        private void readAtom(Atom atom, boolean isAct) {
            atom.kind = expect(LETTER_A, VARIABLE_U - 1) - LETTER_A;
            for (int i = 0; i < FIELDS_MOST; i++) {
                atom.sign[i] = 0;
            }
            for (int i = 0; i < FIELDS[atom.kind]; i++) {
                atom.sign[i] = next() == BLANK && !isAct ? expect(BLANK, BLANK) : expectSide();
            }
        }

        private void readCondition() {
            Part part = spare;
            if (draft.conditionCount < CONDITIONS_MOST) {
                part = draft.condition[draft.conditionCount];
            } else {
                isUnfit = true;
            }
            int first = next();
            part.sort = sortOf(first);
            part.at = 0;
            if (first >= BANG && first <= PLUS) {
                place++;
            }
            if (part.sort == TEST) {
                readTest(part);
            } else {
                readTally(part);
            }
            if (part != spare) {
                draft.end[draft.conditionCount] = place;
                draft.conditionCount++;
            }
        }

        private static int sortOf(int first) {
            if (first >= LETTER_A && first < VARIABLE_U) {
                return HAS;
            }
            return first >= BANG && first <= PLUS ? first - BLANK : TEST;
        }

        private void readTest(Part part) {
            part.left = expectSide();
            part.relation = expect(EQUAL, LESS);
            part.right = expectSide();
            needKnown(part.left);
            needKnown(part.right);
        }

        /** Any condition with an atom. */
        private void readTally(Part part) {
            if (part.sort == COUNT || part.sort == SUM) {
                part.left = expectVariable();
            }
            if (part.sort == SUM) {
                part.right = expectVariable();
            }
            readAtom(part.atom, false);
            part.atom.compile(known);
            draft.kinds |= 1 << part.atom.kind;
            if (part.sort == SUM) {
                part.at = part.atom.fieldOf(part.right);
                if (part.at == NONE) {
                    isUnfit = true;
                    part.at = 0;
                }
            }
            if (part.sort == HAS) {
                addHas();
                known |= part.atom.variables();
            } else if (part.sort == COUNT || part.sort == SUM) {
                int bit = 1 << (part.left - VARIABLE_U);
                part.isNew = (known & bit) == 0;
                known |= bit;
            }
        }

        private void addHas() {
            if (draft.hasCount < HAS_MOST && draft.conditionCount < CONDITIONS_MOST) {
                draft.hasAt[draft.hasCount] = draft.conditionCount;
                draft.hasCount++;
            } else {
                isUnfit = true;
            }
        }

        private void needKnown(int side) {
            if (isVariable(side) && (known >> (side - VARIABLE_U) & 1) == 0) {
                isUnfit = true;
            }
        }

        private void readAct() {
            Part part = spare;
            if (draft.actCount < ACTS_MOST) {
                part = draft.act[draft.actCount];
                draft.actCount++;
            } else {
                isUnfit = true;
            }
            int first = next();
            boolean isPut = first < POINT || first > CURL;
            part.sort = isPut ? PUT : first - ARROW;
            if (!isPut && !isBroken) {
                place++;
            }
            if (part.sort == PUT || part.sort == TELL) {
                readAtom(part.atom, true);
                if ((part.atom.variables() & ~known) != 0) {
                    isUnfit = true;
                }
            } else if (part.sort == TAKE) {
                part.at = expect(0, VALUES - 1);
                isUnfit |= part.at >= draft.hasCount;
            } else if (part.sort == WRITE) {
                part.left = expectSide();
                needKnown(part.left);
            } else if (part.sort == FOCUS) {
                part.at = expect(0, MODULES - 1);
            }
        }
    }

    /** Looks for the matches of a rule; facts for its HAS come out of a pool. */
    private abstract static class Search {
        final State state;
        final Fact[] pool;
        int poolSize;
        boolean isEnough;
        final int[] values = new int[VARIABLES];
        /** How many partial matches the conditions up to each one have. */
        final int[] reached = new int[CONDITIONS_MOST];

        Search(State state, Fact[] pool) {
            this.state = state;
            this.pool = pool;
            poolSize = 0;
        }

        /** What is done with each match; its values are at hand then. */
        abstract void meet(Rule rule, int key);

        /** Goes on from a partial match of the conditions ahead of c, whose places make the key. */
        private static void extend(Search search, Rule rule, int c, int key) {
            if (c >= rule.conditionCount || c >= CONDITIONS_MOST) {
                search.meet(rule, key);
                return;
            }
            Part part = rule.condition[c];
            if (part.sort != HAS) {
                if (search.outcome(part) != NONE) {
                    search.reached[c]++;
                    extend(search, rule, c + 1, key);
                }
                return;
            }
            for (int p = 0; p < search.poolSize && !search.isEnough; p++) {
                if (part.atom.fits(search.pool[p], search.values)) {
                    part.atom.bind(search.pool[p], search.values);
                    search.reached[c]++;
                    extend(search, rule, c + 1, key << 4 | p & 15);
                }
            }
        }

        /** The number of a count or sum, 0 for another condition that is so, NONE for one that is not. */
        int outcome(Part part) {
            if (part.sort == TEST) {
                int left = worthOf(part.left, values);
                int right = worthOf(part.right, values);
                boolean isSo = part.relation == LESS ? left < right : left == right == (part.relation == EQUAL);
                return isSo ? 0 : NONE;
            }
            int fitting = 0;
            int others = 0;
            int sum = 0;
            for (int p = 0; p < STANDING_MOST; p++) {
                Fact fact = state.fact[p];
                if (part.atom.fits(fact, values)) {
                    fitting++;
                    sum += fact.value[part.at];
                } else if (fact.kind == part.atom.kind) {
                    others++;
                }
            }
            if (part.sort == COUNT || part.sort == SUM) {
                int number = part.sort == SUM ? sum : fitting;
                if (part.isNew) {
                    values[part.left - VARIABLE_U] = number;
                }
                return values[part.left - VARIABLE_U] == number ? number : NONE;
            }
            boolean isSo = part.sort == SOME ? fitting > 0 : (part.sort == ALL ? others : fitting) == 0;
            return isSo ? 0 : NONE;
        }
    }

    /** The matches that hold, rule by rule, and the order of those that are not done. */
    private static final class Matches extends Search {
        final int[] placeByAge = new int[STANDING_MOST];
        int aged;
        final int[] foundCount = new int[SLOTS];
        final int[][] partial = new int[SLOTS][CONDITIONS_MOST];
        private final int[] age = new int[STANDING_MOST];
        private boolean isAged;
        private final int[][] found = new int[SLOTS][0];
        private final byte[][] isDone = new byte[SLOTS][0];
        private final boolean[] isFresh = new boolean[SLOTS];
        private int[] agenda = new int[STANDING_MOST];
        private int slot;

        Matches(State state) {
            super(state, state.fact);
            poolSize = STANDING_MOST;
        }

        void meet(Rule rule, int key) {
            int count = foundCount[slot];
            if (count >= found[slot].length) {
                found[slot] = Arrays.copyOf(found[slot], 2 * count + 4);
            }
            found[slot][count] = key;
            foundCount[slot] = count + 1;
        }

        /** For a rule that is put in or out; none of its matches may be marked. */
        void renew(int changed) {
            Rule rule = state.rule[changed];
            isFresh[changed] = false;
            if (rule != null && isDone[changed].length < rule.keyCount()) {
                isDone[changed] = new byte[rule.keyCount()];
            }
        }

        /** For a state that has been put back. */
        void renewAll() {
            isAged = false;
            for (int s = 0; s < SLOTS; s++) {
                renew(s);
            }
        }

        /** Marks all done matches of the rules in these slots, or takes their marks away. */
        void markAll(int slots, boolean isDoneNow) {
            for (int i = 0; i < state.doneCount; i++) {
                int s = State.slotIn(state.done[i]);
                Rule rule = state.rule[s];
                if (rule != null && (slots >> s & 1) == 1) {
                    mark(s, rule.keyOf(State.signatureIn(state.done[i])), isDoneNow);
                }
            }
        }

        void mark(int of, int key, boolean isDoneNow) {
            if (key < isDone[of].length) {
                isDone[of][key] = (byte) (isDoneNow ? 1 : 0);
            }
        }

        private boolean isMarked(int of, int key) {
            return key < isDone[of].length && isDone[of][key] == 1;
        }

        /** A fact of that kind came or went. */
        void touch(int kind) {
            isAged = false;
            for (int s = 0; s < SLOTS; s++) {
                Rule rule = state.rule[s];
                if (rule != null && (rule.kinds >> kind & 1) == 1) {
                    isFresh[s] = false;
                }
            }
        }

        /** Looks for the matches in that slot anew, if something has changed for them. */
        void refresh(int of) {
            Rule rule = state.rule[of];
            if (isFresh[of] && rule != null) {
                return;
            }
            slot = of;
            foundCount[of] = 0;
            if (rule != null) {
                Arrays.fill(reached, 0);
                Search.extend(this, rule, 0, 0);
                System.arraycopy(reached, 0, partial[of], 0, CONDITIONS_MOST);
            }
            isFresh[of] = true;
        }

        int agendaCount() {
            int count = -state.doneCount;
            for (int s = 0; s < SLOTS; s++) {
                refresh(s);
                count += foundCount[s];
            }
            return count;
        }

        /** Puts the facts that stand into the order of their numbers. */
        void ageAll() {
            if (isAged) {
                return;
            }
            aged = 0;
            for (int p = 0; p < STANDING_MOST; p++) {
                if (state.fact[p].kind != NONE) {
                    int at = aged;
                    while (at > 0 && state.fact[placeByAge[at - 1]].number > state.fact[p].number) {
                        placeByAge[at] = placeByAge[at - 1];
                        at--;
                    }
                    placeByAge[at] = p;
                    aged++;
                }
            }
            for (int i = 0; i < aged; i++) {
                age[placeByAge[i]] = i;
            }
            isAged = true;
        }

        /** The rank of a match by the order of the agenda, the first the least; the ages must be fresh. */
        int orderOf(int of, Rule rule, int key) {
            int ages = 0;
            int newness = 0;
            for (int h = rule.hasCount - 1; h >= 0; h--) {
                int one = age[key >> 4 * h & 15];
                ages = ages << 4 | one;
                newness = Math.max(newness, one + 1);
            }
            return URGENCY_MOST - rule.urgency << 20 | STANDING_MOST - newness << 15 | of << 12 | ages;
        }

        int slotIn(int order) {
            return Math.min(order >> 12 & 7, SLOTS - 1);
        }

        int keyIn(int order) {
            Rule rule = state.rule[slotIn(order)];
            int key = 0;
            for (int h = rule == null ? -1 : rule.hasCount - 1; h >= 0; h--) {
                key = key << 4 | placeByAge[order >> 4 * h & 15];
            }
            return key;
        }

        /** The order of the first match on the agenda of the rules in these slots, or NONE. */
        int best(int slots) {
            int least = NONE;
            ageAll();
            for (int s = 0; s < SLOTS; s++) {
                Rule rule = state.rule[s];
                if (rule == null || (slots >> s & 1) == 0) {
                    continue;
                }
                refresh(s);
                for (int i = 0; i < foundCount[s]; i++) {
                    int key = found[s][i];
                    if (!isMarked(s, key)) {
                        int order = orderOf(s, rule, key);
                        least = least == NONE ? order : Math.min(least, order);
                    }
                }
            }
            return least;
        }

        /** The order of the match on the agenda with so many ahead of it, or NONE. */
        int nth(int n) {
            if (n == 0) {
                return best(ALL_SLOTS);
            }
            int count = listAgenda();
            return n > 0 && n < count ? agenda[n] : NONE;
        }

        /** Puts all of the agenda into its order; answers how many there are. */
        int listAgenda() {
            int room = 0;
            for (int s = 0; s < SLOTS; s++) {
                refresh(s);
                room += foundCount[s];
            }
            if (agenda.length < room) {
                agenda = new int[2 * room];
            }
            ageAll();
            int count = 0;
            for (int s = 0; s < SLOTS; s++) {
                Rule rule = state.rule[s];
                for (int i = 0; rule != null && i < foundCount[s]; i++) {
                    int key = found[s][i];
                    if (!isMarked(s, key) && count < agenda.length) {
                        agenda[count] = orderOf(s, rule, key);
                        count++;
                    }
                }
            }
            sortAgenda(count);
            return count;
        }

        private void sortAgenda(int count) {
            for (int gap = count / 2; gap > 0; gap /= 2) {
                for (int i = gap; i < count; i++) {
                    int moved = agenda[i];
                    int at = i;
                    while (at >= gap && agenda[at - gap] > moved) {
                        agenda[at] = agenda[at - gap];
                        at -= gap;
                    }
                    agenda[at] = moved;
                }
            }
        }

        /** The signature of the match with these facts, or NONE if it does not hold; its values stay behind. */
        long signature(Rule rule, int key) {
            long signature = 0;
            int left = rule.hasCount;
            for (int c = 0; c < rule.conditionCount; c++) {
                Part part = rule.condition[c];
                int number;
                if (part.sort == HAS) {
                    left--;
                    number = key >> 4 * left & 15;
                    if (!part.atom.fits(pool[number], values)) {
                        return NONE;
                    }
                    part.atom.bind(pool[number], values);
                } else {
                    number = outcome(part);
                    if (number == NONE) {
                        return NONE;
                    }
                }
                signature |= (long) number << 8 * c;
            }
            return signature;
        }

        boolean isDoneHeld() {
            for (int i = 0; i < state.doneCount; i++) {
                long signature = State.signatureIn(state.done[i]);
                Rule rule = state.rule[State.slotIn(state.done[i])];
                if (rule == null || signature(rule, rule.keyOf(signature)) != signature) {
                    return false;
                }
            }
            return true;
        }

        /** Tries all facts for each HAS of each rule. */
        boolean isAllFound() {
            for (int s = 0; s < SLOTS; s++) {
                Rule rule = state.rule[s];
                refresh(s);
                int count = 0;
                int keyCount = rule == null ? 0 : rule.keyCount();
                for (int key = 0; key < keyCount; key += Math.max(1, keysToNext(key, keyCount))) {
                    if (signature(rule, key) != NONE) {
                        if (count >= foundCount[s] || found[s][count] != key) {
                            return false;
                        }
                        count++;
                    }
                }
                if (count != foundCount[s]) {
                    return false;
                }
            }
            return true;
        }

        /** How far to the next key; all with the same free place are passed over. */
        private int keysToNext(int key, int keyCount) {
            for (int weight = keyCount >> 4; weight > 0; weight >>= 4) {
                if (pool[key / weight & 15].kind == NONE) {
                    return weight;
                }
            }
            return 1;
        }

        /** Whether so many of the listed agenda are in order. */
        boolean isOrdered(int listed) {
            for (int i = 1; i < listed && i < agenda.length; i++) {
                if (agenda[i - 1] >= agenda[i]) {
                    return false;
                }
            }
            return true;
        }
    }

    /** What could be put in some rounds. */
    private static final class Coulds extends Search {
        private final byte[] isSeen = new byte[SHAPES];
        private int gathered;

        Coulds(State state) {
            super(state, new Fact[COULD_MOST + 1]);
        }

        /** Gathers all that could be in so many rounds; with more than there may be, it is enough. */
        void gather(int rounds) {
            for (int i = 0; i < gathered; i++) {
                isSeen[pool[i].shapeNumber()] = 0;
            }
            isEnough = false;
            gathered = 0;
            for (int p = 0; p < STANDING_MOST; p++) {
                if (state.fact[p].kind != NONE) {
                    add(state.fact[p]);
                }
            }
            for (int round = 0; round < rounds && !isEnough; round++) {
                poolSize = gathered;
                for (int s = 0; s < SLOTS && !isEnough; s++) {
                    if (state.rule[s] != null) {
                        Search.extend(this, state.rule[s], 0, 0);
                    }
                }
            }
        }

        boolean isAmong(Fact fact) {
            return isSeen[fact.shapeNumber()] == 1;
        }

        void meet(Rule rule, int key) {
            for (int a = 0; a < rule.actCount && !isEnough; a++) {
                if (rule.act[a].sort == PUT) {
                    Fact next = room();
                    next.shapeBy(rule.act[a].atom, values);
                    keep(next.shapeNumber());
                }
            }
        }

        /** The place for the next one; it is gathered only by keep(). */
        private Fact room() {
            int at = Math.min(gathered, COULD_MOST);
            if (pool[at] == null) {
                pool[at] = new Fact();
            }
            return pool[at];
        }

        private void add(Fact fact) {
            room().copyFrom(fact);
            keep(fact.shapeNumber());
        }

        private void keep(int shapeNumber) {
            if (isSeen[shapeNumber] == 0) {
                isSeen[shapeNumber] = 1;
                gathered++;
                isEnough = gathered > COULD_MOST;
            }
        }
    }

    /** All that can be undone. */
    private static final class State {
        final Fact[] fact = new Fact[STANDING_MOST];
        int came;
        int minute;
        final int[] windowMinutes = new int[KINDS];
        final int[] windowMost = new int[KINDS];
        final Rule[] rule = new Rule[SLOTS];
        /** For each done match the places of facts that it is a reason of, its signature, its slot. */
        long[] done = new long[STANDING_MOST];
        int doneCount;
        int doneEver;
        final int[] stack = new int[STACK_MOST];
        int stackSize = 1;
        final int[] written = new int[WRITTEN_MOST];
        int writtenCount;

        State() {
            for (int p = 0; p < STANDING_MOST; p++) {
                fact[p] = new Fact();
            }
        }

        static int slotIn(long word) {
            return Math.min((int) (word >> 56) & 7, SLOTS - 1);
        }

        static long signatureIn(long word) {
            return word >> 16 & 0xFFFFFFFFFFL;
        }

        static int reasonsIn(long word) {
            return (int) word & 0xFFFF;
        }

        void copyFrom(State other) {
            for (int p = 0; p < STANDING_MOST; p++) {
                fact[p].copyFrom(other.fact[p]);
            }
            came = other.came;
            minute = other.minute;
            System.arraycopy(other.windowMinutes, 0, windowMinutes, 0, KINDS);
            System.arraycopy(other.windowMost, 0, windowMost, 0, KINDS);
            for (int s = 0; s < SLOTS; s++) {
                rule[s] = other.rule[s];
            }
            if (done.length < other.doneCount) {
                done = new long[other.done.length];
            }
            System.arraycopy(other.done, 0, done, 0, other.doneCount);
            doneCount = other.doneCount;
            doneEver = other.doneEver;
            System.arraycopy(other.stack, 0, stack, 0, STACK_MOST);
            stackSize = other.stackSize;
            System.arraycopy(other.written, 0, written, 0, WRITTEN_MOST);
            writtenCount = other.writtenCount;
        }

        int placeOf(int number) {
            for (int p = 0; p < STANDING_MOST; p++) {
                if (fact[p].kind != NONE && fact[p].number == number) {
                    return p;
                }
            }
            return NONE;
        }

        int placeAlike(Fact other) {
            for (int p = 0; p < STANDING_MOST; p++) {
                if (fact[p].isAlike(other)) {
                    return p;
                }
            }
            return NONE;
        }

        int freePlace() {
            for (int p = 0; p < STANDING_MOST; p++) {
                if (fact[p].kind == NONE) {
                    return p;
                }
            }
            return NONE;
        }

        int standing() {
            int mask = 0;
            for (int p = 0; p < STANDING_MOST; p++) {
                if (fact[p].kind != NONE) {
                    mask |= 1 << p;
                }
            }
            return mask;
        }

        int ruleCount() {
            int count = 0;
            for (int s = 0; s < SLOTS; s++) {
                if (rule[s] != null) {
                    count++;
                }
            }
            return count;
        }

        int slotsOf(int module) {
            int mask = 0;
            for (int s = 0; s < SLOTS; s++) {
                if (rule[s] != null && rule[s].module == module) {
                    mask |= 1 << s;
                }
            }
            return mask;
        }

        int doneIn(int slot) {
            int count = 0;
            for (int i = 0; i < doneCount; i++) {
                if (slotIn(done[i]) == slot) {
                    count++;
                }
            }
            return count;
        }

        /** The places of the facts with a reason of that rule. */
        int putBy(int slot) {
            int mask = 0;
            for (int i = 0; i < doneCount; i++) {
                if (slotIn(done[i]) == slot) {
                    mask |= reasonsIn(done[i]);
                }
            }
            return mask;
        }

        int reasonsOf(int place) {
            int count = 0;
            for (int i = 0; i < doneCount; i++) {
                count += reasonsIn(done[i]) >> place & 1;
            }
            return count;
        }

        /** The places of the facts that are beyond their windows by minutes. */
        int overMinutes() {
            int mask = 0;
            for (int p = 0; p < STANDING_MOST; p++) {
                int kind = fact[p].kind;
                if (kind != NONE && windowMinutes[kind] > 0 && minute - fact[p].minute >= windowMinutes[kind]) {
                    mask |= 1 << p;
                }
            }
            return mask;
        }

        /** The places of the facts that are beyond the window by count. */
        int overMost(int kind) {
            int mask = 0;
            int over = windowMost[kind] > 0 ? countOf(kind) - windowMost[kind] : 0;
            for (int i = 0; i < over; i++) {
                int oldest = NONE;
                for (int p = 0; p < STANDING_MOST; p++) {
                    boolean isLeft = fact[p].kind == kind && (mask >> p & 1) == 0;
                    if (isLeft && (oldest == NONE || fact[p].number < fact[oldest].number)) {
                        oldest = p;
                    }
                }
                mask |= oldest == NONE ? 0 : 1 << oldest;
            }
            return mask;
        }

        private int countOf(int kind) {
            int count = 0;
            for (int p = 0; p < STANDING_MOST; p++) {
                if (fact[p].kind == kind) {
                    count++;
                }
            }
            return count;
        }

        void addDone(int slot, long signature) {
            if (doneCount >= done.length) {
                done = Arrays.copyOf(done, 2 * doneCount + 1);
            }
            done[doneCount] = (long) slot << 56 | signature << 16;
            doneCount++;
            doneEver++;
        }

        int top() {
            return moduleAt(stackSize);
        }

        /** The last one of so many modules. */
        int moduleAt(int size) {
            return size >= 1 && size <= STACK_MOST ? stack[size - 1] : 0;
        }

        boolean canPush(int module) {
            return stackSize < STACK_MOST && top() != module;
        }

        void push(int module) {
            if (canPush(module)) {
                stack[stackSize] = module;
                stackSize++;
            }
        }

        void note(int number) {
            if (writtenCount >= WRITTEN_MOST) {
                System.arraycopy(written, 1, written, 0, WRITTEN_MOST - 1);
                writtenCount = WRITTEN_MOST - 1;
            }
            written[writtenCount] = number;
            writtenCount++;
        }

        boolean isWithinBounds() {
            boolean isSo = stackSize >= 1 && stackSize <= STACK_MOST && minute >= 0 && minute <= MINUTE_MOST
                    && writtenCount >= 0 && writtenCount <= WRITTEN_MOST && doneCount <= doneEver
                    && overMinutes() == 0;
            for (int kind = 0; kind < KINDS; kind++) {
                isSo &= windowMinutes[kind] >= 0 && windowMinutes[kind] <= PASS_MOST && windowMost[kind] >= 0
                        && windowMost[kind] <= STANDING_MOST && overMost(kind) == 0;
            }
            for (int i = 0; isSo && i < stackSize; i++) {
                isSo = isModule(stack[i]);
            }
            for (int s = 0; s < SLOTS; s++) {
                isSo &= rule[s] == null || (Math.abs(rule[s].urgency) <= URGENCY_MOST && isModule(rule[s].module));
            }
            for (int p = 0; p < STANDING_MOST; p++) {
                isSo &= fact[p].kind == NONE || isFactWithinBounds(fact[p]);
            }
            return isSo;
        }

        private boolean isFactWithinBounds(Fact one) {
            return isShape(one.kind, one.value[0], one.value[1], one.value[2]) && one.number >= 0
                    && one.number < came && one.minute >= 0 && one.minute <= minute;
        }

        boolean isUnlike() {
            for (int p = 0; p < STANDING_MOST; p++) {
                for (int q = 0; q < p; q++) {
                    boolean isBoth = fact[p].kind != NONE && fact[q].kind != NONE;
                    if (isBoth && (fact[p].isAlike(fact[q]) || fact[p].number == fact[q].number)) {
                        return false;
                    }
                }
            }
            return true;
        }
    }

    /** What is done to the facts: they come, go and settle, and matches do their acts. */
    private static final class Work {
        final State state;
        final Matches matches;
        boolean isStopped;
        /** The rank of the fact in each place, NONE without one that is founded. */
        final int[] rank = new int[STANDING_MOST];
        /** The kinds of facts that came or went since the last settling, one bit for each. */
        private int touched;
        /** Where the match that is being done stands among those done; NONE if it is done no more. */
        private int current = NONE;
        private final int[] values = new int[VARIABLES];
        private final int[] numbers = new int[HAS_MOST];
        private final Fact made = new Fact();

        Work(State state, Matches matches) {
            this.state = state;
            this.matches = matches;
        }

        private void touch(int kind) {
            touched |= 1 << kind;
            matches.touch(kind);
        }

        /** The place of that fact, which comes if it does not stand; NONE if there is no room for it. */
        int bring(Fact shape) {
            int place = state.placeAlike(shape);
            if (place != NONE) {
                return place;
            }
            place = state.freePlace();
            if (place == NONE) {
                return NONE;
            }
            Fact fact = state.fact[place];
            fact.copyFrom(shape);
            fact.number = state.came;
            fact.minute = state.minute;
            fact.isTold = false;
            state.came++;
            touch(fact.kind);
            leave(state.overMost(fact.kind));
            return place;
        }

        /** The facts in these places go; answers how many. */
        int leave(int places) {
            if (places == 0) {
                return 0;
            }
            for (int p = 0; p < STANDING_MOST; p++) {
                if ((places >> p & 1) == 1 && state.fact[p].kind != NONE) {
                    touch(state.fact[p].kind);
                    state.fact[p].kind = NONE;
                }
            }
            for (int i = 0; i < state.doneCount; i++) {
                state.done[i] &= ~(long) places;
            }
            return Integer.bitCount(places);
        }

        /** Answers how many facts went by it. */
        int settle() {
            int went = 0;
            for (int round = 0; round <= STANDING_MOST; round++) {
                dropUnheld();
                int unfounded = state.standing() & ~rankAll();
                if (unfounded == 0) {
                    break;
                }
                went += leave(unfounded);
            }
            touched = 0;
            return went;
        }

        /** A match none of whose kinds was touched holds as it did. */
        private void dropUnheld() {
            int kept = 0;
            for (int i = 0; i < state.doneCount; i++) {
                long word = state.done[i];
                long signature = State.signatureIn(word);
                Rule rule = state.rule[State.slotIn(word)];
                int key = rule == null ? 0 : rule.keyOf(signature);
                boolean isHeld = rule != null
                        && ((rule.kinds & touched) == 0 || matches.signature(rule, key) == signature);
                if (i == current) {
                    current = isHeld ? kept : NONE;
                }
                if (isHeld) {
                    state.done[kept] = word;
                    kept++;
                } else if (rule != null) {
                    matches.mark(State.slotIn(word), key, false);
                }
            }
            state.doneCount = kept;
        }

        /** Gives all founded facts their ranks, level by level; answers their places. */
        int rankAll() {
            int founded = 0;
            for (int p = 0; p < STANDING_MOST; p++) {
                boolean isTold = state.fact[p].kind != NONE && state.fact[p].isTold;
                rank[p] = isTold ? 0 : NONE;
                founded |= isTold ? 1 << p : 0;
            }
            for (int level = 1; level <= STANDING_MOST; level++) {
                int next = 0;
                for (int i = 0; i < state.doneCount; i++) {
                    long word = state.done[i];
                    int reasons = State.reasonsIn(word) & ~founded;
                    Rule rule = state.rule[State.slotIn(word)];
                    if (reasons != 0 && rule != null && (rule.placesOf(State.signatureIn(word)) & ~founded) == 0) {
                        next |= reasons;
                    }
                }
                if (next == 0) {
                    break;
                }
                for (int p = 0; p < STANDING_MOST; p++) {
                    rank[p] = (next >> p & 1) == 1 ? level : rank[p];
                }
                founded |= next;
            }
            return founded;
        }

        /** Which done match is the first reason whose facts have smaller ranks; needs the ranks as they are. */
        int firstReason(int place) {
            int first = NONE;
            int least = 0;
            matches.ageAll();
            for (int i = 0; i < state.doneCount; i++) {
                long word = state.done[i];
                int slot = State.slotIn(word);
                Rule rule = state.rule[slot];
                if (rule == null || (State.reasonsIn(word) >> place & 1) == 0 || !isBelow(rule, word, rank[place])) {
                    continue;
                }
                int order = matches.orderOf(slot, rule, rule.keyOf(State.signatureIn(word))) & 0x7FFF;
                if (first == NONE || order < least) {
                    first = i;
                    least = order;
                }
            }
            return first;
        }

        private boolean isBelow(Rule rule, long word, int bound) {
            for (int h = 0; h < rule.hasCount; h++) {
                if (rank[rule.placeIn(State.signatureIn(word), h)] >= bound) {
                    return false;
                }
            }
            return true;
        }

        void doMatch(int slot, int key) {
            Rule rule = state.rule[slot];
            if (rule == null) {
                return;
            }
            long signature = matches.signature(rule, key);
            if (signature == NONE) {
                return;
            }
            System.arraycopy(matches.values, 0, values, 0, VARIABLES);
            for (int h = 0; h < rule.hasCount; h++) {
                numbers[h] = state.fact[rule.placeIn(signature, h)].number;
            }
            current = state.doneCount;
            state.addDone(slot, signature);
            matches.mark(slot, key, true);
            for (int a = 0; a < rule.actCount; a++) {
                doAct(rule.act[a]);
                if (touched != 0) {
                    settle();
                }
            }
            current = NONE;
        }

        private void doAct(Part act) {
            switch (act.sort) {
                case PUT:
                    if (current != NONE) {
                        made.shapeBy(act.atom, values);
                        int place = bring(made);
                        if (place != NONE) {
                            state.done[current] |= 1L << place;
                        }
                    }
                    break;
                case TELL:
                    made.shapeBy(act.atom, values);
                    int told = bring(made);
                    if (told != NONE) {
                        state.fact[told].isTold = true;
                    }
                    break;
                case TAKE:
                    int taken = act.at < HAS_MOST ? state.placeOf(numbers[act.at]) : NONE;
                    if (taken != NONE) {
                        leave(1 << taken);
                    }
                    break;
                case WRITE:
                    state.note(worthOf(act.left, values));
                    break;
                case STOP:
                    isStopped = true;
                    break;
                default:
                    state.push(act.at);
                    break;
            }
        }
    }

    private static final class Layers {
        final int[] ofKind = new int[KINDS];
        final int[] ofRule = new int[SLOTS];
        boolean isRing;

        /** Lets the layers rise until all is so; one above the count of slots can come by a ring alone. */
        void measure(Rule[] rules) {
            Arrays.fill(ofKind, 0);
            Arrays.fill(ofRule, 0);
            isRing = false;
            boolean isRising = true;
            for (int round = 0; isRising && round <= (KINDS + SLOTS) * (SLOTS + 2); round++) {
                isRising = false;
                for (int s = 0; s < SLOTS; s++) {
                    if (rules[s] != null && lift(rules[s], s)) {
                        isRising = true;
                        isRing |= ofRule[s] > SLOTS;
                    }
                }
                isRising &= !isRing;
            }
            if (isRing) {
                Arrays.fill(ofKind, NONE);
                Arrays.fill(ofRule, NONE);
            }
        }

        /** Answers whether the rule has risen; what it puts or tells rises with it alone. */
        private boolean lift(Rule rule, int slot) {
            int least = ofRule[slot];
            for (int c = 0; c < rule.conditionCount; c++) {
                Part part = rule.condition[c];
                if (part.sort != TEST) {
                    int above = part.sort == HAS || part.sort == SOME ? 0 : 1;
                    least = Math.max(least, ofKind[part.atom.kind] + above);
                }
            }
            boolean isRisen = least > ofRule[slot];
            ofRule[slot] = least;
            for (int a = 0; a < rule.actCount; a++) {
                Part part = rule.act[a];
                if (part.sort == PUT || part.sort == TELL) {
                    ofKind[part.atom.kind] = Math.max(ofKind[part.atom.kind], least);
                }
            }
            return isRisen;
        }

        /** The slots whose rules have that layer. */
        int slotsIn(int wanted) {
            int mask = 0;
            for (int s = 0; s < SLOTS; s++) {
                if (ofRule[s] == wanted) {
                    mask |= 1 << s;
                }
            }
            return mask;
        }
    }
}

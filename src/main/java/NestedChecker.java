import java.util.Arrays;

/**
 * A checker for nested words. The promises are those of DOC.md.
 *
 * A set of STATES is held in 3 bits (1 for STATE 0, 2, 4), a set of pairs of STATES in 9 bits
 * (bit 3 * p + q for the pair of p and q). All rows are made with the object and used again,
 * so that no call makes an object.
 */
public final class NestedChecker {
    public static final int NONE = -1;

    private static final int FINE = 0;
    private static final int CANNOT_BE_NUMBER = 1;
    private static final int TRAY_MISSING = 2;
    private static final int NO_PLACE = 3;
    private static final int TOO_MANY = 4;
    private static final int NO_LETTER = 5;
    private static final int NONE_SUCH = 6;
    private static final int CANNOT_BE = 7;
    private static final int UNLIKE = 8;
    private static final int FAULTY = 9;

    private static final int CALL = 0;
    private static final int RETURN = 1;
    private static final int INNER = 2;

    private static final int MOST_TEXT = 900;
    private static final int FED_AT_ONCE = 20;
    private static final int MOST_LETTERS = 6;
    private static final int MOST_OF_A_SORT = 2;
    private static final int MOST_AUTOMATA = 2;
    private static final int MOST_STATES = 3;
    private static final int MOST_RULES = 20;
    private static final int MOST_SUMMARIES = 40;
    private static final int MOST_PENDING = 30;
    private static final int MOST_MARKS = 3;
    private static final int LONGEST_WORD = 20;
    private static final int LONGEST_TOLD = 6;
    private static final int MOST_DRAWN = 50;
    private static final int MOST_SEED = 9999;
    private static final int PAIR_SETS = 512;
    private static final int STATE_SETS = 8;

    private static final int TAKEN_BY_ONE = 0;
    private static final int TAKEN_BY_BOTH = 1;
    private static final int TAKEN_BY_FIRST_ALONE = 2;
    private static final int TAKEN_BY_NONE = 3;

    private int lastStatus;
    private long fractionTop;
    private long fractionBottom;
    private final Trays trays = new Trays();
    private final Reader reader = new Reader();
    private Setting live = new Setting();
    private final Setting[] kept = new Setting[MOST_MARKS];
    private int marks;
    private final SummaryTable firstTable = new SummaryTable();
    private final SummaryTable secondTable = new SummaryTable();
    private final Search search = new Search();
    private final Tally tally = new Tally();
    private final Walk walker = new Walk();
    private final RunCount runCount = new RunCount();
    private int drawn;

    public NestedChecker() {
        lastStatus = FINE;
        fractionTop = 0;
        fractionBottom = 1;
        for (int i = 0; i < MOST_MARKS; i++) {
            kept[i] = new Setting();
        }
    }

    public int status() {
        return lastStatus;
    }

    public long top() {
        return fractionTop;
    }

    public long bottom() {
        return fractionBottom;
    }

    // ---- TRAYS

    public boolean tray(int tray, int sort, int many) {
        if (!trays.has(tray) || !within(sort, 0, 3) || !within(many, 0, Trays.MOST_PLACES)) {
            return deny(CANNOT_BE_NUMBER);
        }
        trays.make(tray, sort, many);
        return agree();
    }

    public boolean write(int tray, int place, long v) {
        int why = trays.refusal(tray, place);
        if (why != FINE) {
            return deny(why);
        }
        trays.set(tray, place, v);
        return agree();
    }

    public long read(int tray, int place) {
        int why = trays.refusal(tray, place);
        if (why != FINE) {
            return refuse(why);
        }
        lastStatus = FINE;
        return trays.get(tray, place);
    }

    public boolean pour(int from, int place, int to, int at, int many) {
        int why = trays.pourRefusal(from, place, to, at, many);
        if (why != FINE) {
            return deny(why);
        }
        trays.move(from, place, to, at, many);
        return agree();
    }

    // ---- the text

    public int feed(int a, int b, int c, int d, int e) {
        if (reader.taped + FED_AT_ONCE > MOST_TEXT) {
            return NONE;
        }
        reader.append(a);
        reader.append(b);
        reader.append(c);
        reader.append(d);
        reader.append(e);
        return reader.taped;
    }

    public int checker(int n) {
        if (n < 0 || n > reader.taped) {
            return refuse(CANNOT_BE_NUMBER);
        }
        if (!reader.take(n)) {
            return refuse(FAULTY);
        }
        Setting old = live;
        live = reader.made;
        reader.made = old;
        forget();
        return answer(live.automata);
    }

    public int fault(int what) {
        if (what == 0) {
            return reader.faultKind;
        }
        return what == 1 ? reader.faultPlace : NONE;
    }

    public int told(int what) {
        switch (what) {
            case 0:
                return answer(live.calls);
            case 1:
                return answer(live.paired - live.calls);
            case 2:
                return answer(live.letters - live.paired);
            case 3:
                return answer(live.automata);
            default:
                return refuse(CANNOT_BE_NUMBER);
        }
    }

    public int automaton(int automaton, int what) {
        if (!live.has(automaton)) {
            return refuse(CANNOT_BE_NUMBER);
        }
        Automaton a = live.pick(automaton);
        switch (what) {
            case 0:
                return answer(a.states);
            case 1:
                return answer(a.symbols);
            case 2:
                return answer(a.starts);
            case 3:
                return answer(a.accepts);
            case 4:
                return answer(a.rules);
            default:
                return refuse(CANNOT_BE_NUMBER);
        }
    }

    public int rule(int automaton, int k, int what) {
        if (!live.has(automaton) || !live.pick(automaton).hasRule(k)) {
            return refuse(CANNOT_BE_NUMBER);
        }
        Automaton a = live.pick(automaton);
        switch (what) {
            case 0:
                return answer(a.letter[k]);
            case 1:
                return answer(a.from[k]);
            case 2:
                return answer(a.to[k]);
            case 3:
                return a.symbol[k] == NONE ? refuse(NONE_SUCH) : answer(a.symbol[k]);
            default:
                return refuse(CANNOT_BE_NUMBER);
        }
    }

    // ---- what is done

    public int add(int automaton, int letter, int from, int to, int symbol) {
        if (!live.has(automaton) || !live.couldHave(live.pick(automaton), letter, from, to, symbol)) {
            return refuse(CANNOT_BE_NUMBER);
        }
        Automaton a = live.pick(automaton);
        if (a.rules >= MOST_RULES) {
            return refuse(TOO_MANY);
        }
        if (a.find(letter, from, to, symbol) != NONE) {
            return refuse(CANNOT_BE);
        }
        a.append(letter, from, to, symbol);
        forget();
        return answer(a.rules);
    }

    public int drop(int automaton, int k) {
        if (!live.has(automaton) || !live.pick(automaton).hasRule(k)) {
            return refuse(CANNOT_BE_NUMBER);
        }
        Automaton a = live.pick(automaton);
        a.remove(k);
        forget();
        return answer(a.rules);
    }

    public int start(int automaton, int state, boolean is) {
        if (!hasState(automaton, state)) {
            return refuse(CANNOT_BE_NUMBER);
        }
        Automaton a = live.pick(automaton);
        int changed = is ? a.starts | 1 << state : a.starts & ~(1 << state);
        if (changed == a.starts) {
            return refuse(CANNOT_BE);
        }
        a.starts = changed;
        forget();
        return answer(changed);
    }

    public int accept(int automaton, int state, boolean is) {
        if (!hasState(automaton, state)) {
            return refuse(CANNOT_BE_NUMBER);
        }
        Automaton a = live.pick(automaton);
        int changed = is ? a.accepts | 1 << state : a.accepts & ~(1 << state);
        if (changed == a.accepts) {
            return refuse(CANNOT_BE);
        }
        a.accepts = changed;
        forget();
        return answer(changed);
    }

    public boolean copy(int automaton, int other) {
        if (!areTwo(automaton, other)) {
            return deny(CANNOT_BE_NUMBER);
        }
        live.pick(other).become(live.pick(automaton));
        forget();
        return agree();
    }

    // ---- words

    public int takes(int automaton, int tray, int n) {
        int why = wordRefusal(live.has(automaton), tray, n);
        if (why != FINE) {
            return refuse(why);
        }
        Automaton a = live.pick(automaton);
        walkTray(a, tray, n);
        return answer(walker.isTaken(a) ? 1 : 0);
    }

    public int ends(int automaton, int tray, int n) {
        int why = wordRefusal(live.has(automaton), tray, n);
        if (why != FINE) {
            return refuse(why);
        }
        walkTray(live.pick(automaton), tray, n);
        return answer(walker.states);
    }

    public boolean runs(int automaton, int tray, int n) {
        int why = wordRefusal(live.has(automaton), tray, n);
        if (why != FINE) {
            return deny(why);
        }
        Automaton a = live.pick(automaton);
        runCount.begin();
        for (int i = 0; i < n; i++) {
            int letter = (int) trays.get(tray, i);
            runCount.go(a, letter, live.sortOf(letter));
        }
        tellFraction(runCount.total(a), 1);
        return agree();
    }

    public int depth(int tray, int n, int what) {
        int why = wordRefusal(within(what, 0, 2), tray, n);
        if (why != FINE) {
            return refuse(why);
        }
        int pending = 0;
        int loose = 0;
        int deepest = 0;
        for (int i = 0; i < n; i++) {
            int sort = sortAt(tray, i);
            if (sort == CALL) {
                pending++;
                deepest = Math.max(deepest, pending);
            } else if (sort == RETURN && pending > 0) {
                pending--;
            } else if (sort == RETURN) {
                loose++;
            }
        }
        if (what == 0) {
            return answer(pending);
        }
        return answer(what == 1 ? loose : deepest);
    }

    public int partner(int tray, int n, int k) {
        int why = wordRefusal(k >= 0 && k < n, tray, n);
        if (why != FINE) {
            return refuse(why);
        }
        int place = partnerPlace(tray, n, k);
        return place == NONE ? refuse(NONE_SUCH) : answer(place);
    }

    // ---- the table

    public int table(int automaton) {
        if (!live.has(automaton)) {
            return refuse(CANNOT_BE_NUMBER);
        }
        SummaryTable t = tableOf(automaton);
        return t.stands() ? answer(t.size) : refuse(CANNOT_BE);
    }

    public int summary(int automaton, int k, int what) {
        int why = summaryRefusal(live.has(automaton) && within(what, 0, 2), automaton, k);
        if (why != FINE) {
            return refuse(why);
        }
        SummaryTable t = tableOf(automaton);
        if (what == 0) {
            return answer(t.states[k]);
        }
        if (what == 1) {
            return answer(t.pairs[k]);
        }
        return answer((t.states[k] & live.pick(automaton).accepts) != 0 ? 1 : 0);
    }

    public int next(int automaton, int k, int letter) {
        int why = summaryRefusal(live.has(automaton) && live.hasLetter(letter), automaton, k);
        if (why != FINE) {
            return refuse(why);
        }
        return answer(tableOf(automaton).after(live, live.pick(automaton), k, letter));
    }

    public int nextBack(int automaton, int k, int letter, int j, int call) {
        boolean can = live.has(automaton) && live.sortOf(letter) == RETURN && live.sortOf(call) == CALL;
        int why = summaryRefusal(can, automaton, k);
        if (why == FINE) {
            why = summaryRefusal(true, automaton, j);
        }
        if (why != FINE) {
            return refuse(why);
        }
        SummaryTable t = tableOf(automaton);
        int over = live.pick(automaton).over(call, letter, t.pairs[k]);
        return answer(t.find(Relations.image(t.states[j], over), Relations.compose(t.pairs[j], over)));
    }

    // ---- the shortest words

    public int well(int automaton, int state, int other) {
        if (!hasState(automaton, state) || !hasState(automaton, other)) {
            return refuse(CANNOT_BE_NUMBER);
        }
        int length = search.wellLength(live, live.pick(automaton), state, other);
        return length == NONE ? refuse(NONE_SUCH) : answer(length);
    }

    public int reaches(int automaton) {
        if (!live.has(automaton)) {
            return refuse(CANNOT_BE_NUMBER);
        }
        Automaton a = live.pick(automaton);
        return answer(live.reachable(a, a.starts, true, live.wellPairs(a)));
    }

    public int shortest(int automaton) {
        if (!live.has(automaton)) {
            return refuse(CANNOT_BE_NUMBER);
        }
        return tellLength(search.slotOf(live, TAKEN_BY_ONE, automaton, automaton));
    }

    public int shortestAt(int automaton, int k) {
        if (!live.has(automaton) || k < 0) {
            return refuse(CANNOT_BE_NUMBER);
        }
        return tellLetter(search.slotOf(live, TAKEN_BY_ONE, automaton, automaton), k);
    }

    public int both(int automaton, int other) {
        if (!areTwo(automaton, other)) {
            return refuse(CANNOT_BE_NUMBER);
        }
        return tellLength(search.slotOf(live, TAKEN_BY_BOTH, automaton, other));
    }

    public int bothAt(int automaton, int other, int k) {
        if (!areTwo(automaton, other) || k < 0) {
            return refuse(CANNOT_BE_NUMBER);
        }
        return tellLetter(search.slotOf(live, TAKEN_BY_BOTH, automaton, other), k);
    }

    public int parting(int automaton, int other) {
        int why = tableRefusal(areTwo(automaton, other), other);
        if (why != FINE) {
            return refuse(why);
        }
        return tellLength(search.slotOf(live, TAKEN_BY_FIRST_ALONE, automaton, other));
    }

    public int partingAt(int automaton, int other, int k) {
        int why = tableRefusal(areTwo(automaton, other) && k >= 0, other);
        if (why != FINE) {
            return refuse(why);
        }
        return tellLetter(search.slotOf(live, TAKEN_BY_FIRST_ALONE, automaton, other), k);
    }

    public int missing(int automaton) {
        int why = tableRefusal(live.has(automaton), automaton);
        if (why != FINE) {
            return refuse(why);
        }
        return tellLength(search.slotOf(live, TAKEN_BY_NONE, automaton, automaton));
    }

    public int missingAt(int automaton, int k) {
        int why = tableRefusal(live.has(automaton) && k >= 0, automaton);
        if (why != FINE) {
            return refuse(why);
        }
        return tellLetter(search.slotOf(live, TAKEN_BY_NONE, automaton, automaton), k);
    }

    public int includes(int automaton, int other) {
        int why = tableRefusal(areTwo(automaton, other), other);
        if (why != FINE) {
            return refuse(why);
        }
        int slot = search.slotOf(live, TAKEN_BY_FIRST_ALONE, automaton, other);
        return answer(search.foundLength[slot] == NONE ? 1 : 0);
    }

    public int equal(int automaton, int other) {
        int why = tableRefusal(areTwo(automaton, other), other);
        if (why == FINE) {
            why = tableRefusal(true, automaton);
        }
        if (why != FINE) {
            return refuse(why);
        }
        int slot = search.slotOf(live, TAKEN_BY_FIRST_ALONE, automaton, other);
        int back = search.slotOf(live, TAKEN_BY_FIRST_ALONE, other, automaton);
        return answer(search.foundLength[slot] == NONE && search.foundLength[back] == NONE ? 1 : 0);
    }

    // ---- how many words

    public int count(int automaton, int n) {
        if (!live.has(automaton) || !within(n, 0, LONGEST_TOLD)) {
            return refuse(CANNOT_BE_NUMBER);
        }
        Automaton a = live.pick(automaton);
        tally.reckon(live, a, n);
        return answer(tally.taken(a, n));
    }

    public boolean share(int automaton, int n) {
        if (!live.has(automaton) || !within(n, 0, LONGEST_TOLD)) {
            return deny(CANNOT_BE_NUMBER);
        }
        if (live.letters == 0 && n > 0) {
            return deny(NONE_SUCH);
        }
        Automaton a = live.pick(automaton);
        tally.reckon(live, a, n);
        tellFraction(tally.taken(a, n), Relations.power(live.letters, n));
        return agree();
    }

    public int lastAt(int automaton, int n, int k) {
        if (!live.has(automaton) || !within(n, 1, LONGEST_TOLD) || !within(k, 0, n - 1)) {
            return refuse(CANNOT_BE_NUMBER);
        }
        Automaton a = live.pick(automaton);
        tally.reckon(live, a, n);
        int code = tally.lastTaken(a, n);
        return code == NONE ? refuse(NONE_SUCH) : answer(Relations.digit(code, live.letters, n - 1 - k));
    }

    public boolean sample(int tray, int n, int seed) {
        if (!trays.has(tray) || !within(n, 0, LONGEST_WORD) || !within(seed, 0, MOST_SEED)) {
            return deny(CANNOT_BE_NUMBER);
        }
        if (trays.isMissing(tray)) {
            return deny(TRAY_MISSING);
        }
        if (n > trays.placesOf(tray)) {
            return deny(NO_PLACE);
        }
        if (live.letters == 0 && n > 0) {
            return deny(NONE_SUCH);
        }
        drawn = seed;
        for (int i = 0; i < n; i++) {
            trays.set(tray, i, draw(live.letters));
        }
        return agree();
    }

    public boolean chance(int automaton, int n, int many, int seed) {
        if (!live.has(automaton) || !within(n, 0, LONGEST_WORD) || !within(many, 1, MOST_DRAWN)
                || !within(seed, 0, MOST_SEED)) {
            return deny(CANNOT_BE_NUMBER);
        }
        if (live.letters == 0 && n > 0) {
            return deny(NONE_SUCH);
        }
        Automaton a = live.pick(automaton);
        drawn = seed;
        int taken = 0;
        for (int i = 0; i < many; i++) {
            walkDrawn(a, n);
            taken += walker.isTaken(a) ? 1 : 0;
        }
        tellFraction(taken, many);
        return agree();
    }

    // ---- the MONITOR

    public int watch(int automaton) {
        if (!live.has(automaton)) {
            return refuse(CANNOT_BE_NUMBER);
        }
        Automaton a = live.pick(automaton);
        live.monitor.begin(a);
        live.monitor.watched = automaton;
        return answer(live.monitor.isTaken(a) ? 1 : 0);
    }

    public int see(int letter) {
        if (!live.hasLetter(letter)) {
            return refuse(CANNOT_BE_NUMBER);
        }
        Walk monitor = live.monitor;
        if (monitor.watched == NONE) {
            return refuse(NONE_SUCH);
        }
        int sort = live.sortOf(letter);
        if (sort == CALL && monitor.pending >= MOST_PENDING) {
            return refuse(TOO_MANY);
        }
        Automaton a = live.pick(monitor.watched);
        monitor.go(a, letter, sort);
        return answer(monitor.isTaken(a) ? 1 : 0);
    }

    public int seen(int what) {
        if (!within(what, 0, 4)) {
            return refuse(CANNOT_BE_NUMBER);
        }
        Walk monitor = live.monitor;
        if (monitor.watched == NONE) {
            return refuse(NONE_SUCH);
        }
        switch (what) {
            case 0:
                return answer(monitor.watched);
            case 1:
                return answer(monitor.steps);
            case 2:
                return answer(monitor.pending);
            case 3:
                return answer(monitor.states);
            default:
                return answer(monitor.isTaken(live.pick(monitor.watched)) ? 1 : 0);
        }
    }

    public int doomed() {
        if (live.monitor.watched == NONE) {
            return refuse(NONE_SUCH);
        }
        return answer(live.isLost() ? 1 : 0);
    }

    // ---- MARKS

    public int mark() {
        if (marks >= MOST_MARKS) {
            return refuse(TOO_MANY);
        }
        kept[marks].become(live);
        marks++;
        return answer(marks);
    }

    public int undo() {
        if (marks <= 0) {
            return refuse(NONE_SUCH);
        }
        marks--;
        Setting left = live;
        live = kept[marks];
        kept[marks] = left;
        forget();
        return answer(marks);
    }

    // ---- helpers of the calls

    private int answer(int value) {
        lastStatus = FINE;
        return value;
    }

    private int refuse(int why) {
        lastStatus = why;
        return NONE;
    }

    private boolean agree() {
        lastStatus = FINE;
        return true;
    }

    private boolean deny(int why) {
        lastStatus = why;
        return false;
    }

    private static boolean within(int v, int least, int most) {
        return v >= least && v <= most;
    }

    private boolean areTwo(int automaton, int other) {
        return live.has(automaton) && live.has(other) && automaton != other;
    }

    private boolean hasState(int automaton, int state) {
        return live.has(automaton) && live.pick(automaton).hasState(state);
    }

    // What was reckoned of the CHECKER holds only as long as nothing of it changes.
    private void forget() {
        firstTable.known = false;
        secondTable.known = false;
        search.forgetFound();
    }

    private int wordRefusal(boolean numbersCanBe, int tray, int n) {
        if (!numbersCanBe || !trays.has(tray) || !within(n, 0, LONGEST_WORD)) {
            return CANNOT_BE_NUMBER;
        }
        if (trays.isMissing(tray)) {
            return TRAY_MISSING;
        }
        if (n > trays.placesOf(tray)) {
            return NO_PLACE;
        }
        for (int i = 0; i < n; i++) {
            long v = trays.get(tray, i);
            if (v < 0 || v >= live.letters) {
                return NO_LETTER;
            }
        }
        return FINE;
    }

    private void walkTray(Automaton a, int tray, int n) {
        walker.begin(a);
        for (int i = 0; i < n; i++) {
            int letter = (int) trays.get(tray, i);
            walker.go(a, letter, live.sortOf(letter));
        }
    }

    private void walkDrawn(Automaton a, int n) {
        walker.begin(a);
        for (int i = 0; i < n; i++) {
            int letter = draw(live.letters);
            walker.go(a, letter, live.sortOf(letter));
        }
    }

    // From a CALL the PARTNER is ahead, from a RETURN it is behind; what opens on the way
    // must close again before it.
    private int partnerPlace(int tray, int n, int k) {
        int own = sortAt(tray, k);
        if (own == INNER) {
            return NONE;
        }
        int way = own == CALL ? 1 : -1;
        int open = 0;
        for (int i = k + way; i >= 0 && i < n; i += way) {
            int sort = sortAt(tray, i);
            if (sort == own) {
                open++;
            } else if (sort != INNER && open > 0) {
                open--;
            } else if (sort != INNER) {
                return i;
            }
        }
        return NONE;
    }

    private int sortAt(int tray, int place) {
        return live.sortOf((int) trays.get(tray, place));
    }

    private SummaryTable tableOf(int automaton) {
        SummaryTable t = automaton == 0 ? firstTable : secondTable;
        if (!t.known) {
            t.build(live, live.pick(automaton));
        }
        return t;
    }

    private int tableRefusal(boolean numbersCanBe, int automaton) {
        if (!numbersCanBe) {
            return CANNOT_BE_NUMBER;
        }
        return tableOf(automaton).stands() ? FINE : CANNOT_BE;
    }

    private int summaryRefusal(boolean numbersCanBe, int automaton, int k) {
        if (!numbersCanBe) {
            return CANNOT_BE_NUMBER;
        }
        SummaryTable t = tableOf(automaton);
        if (!t.stands()) {
            return CANNOT_BE;
        }
        return k >= 0 && k < t.size ? FINE : NONE_SUCH;
    }

    private int tellLength(int slot) {
        int length = search.foundLength[slot];
        return length == NONE ? refuse(NONE_SUCH) : answer(length);
    }

    private int tellLetter(int slot, int k) {
        int length = search.foundLength[slot];
        if (length == NONE || k >= length) {
            return refuse(NONE_SUCH);
        }
        if (length > LONGEST_TOLD) {
            return refuse(CANNOT_BE);
        }
        return answer(Relations.digit(search.foundCode[slot], live.letters, length - 1 - k));
    }

    private int draw(int many) {
        drawn = (drawn * 3287 + 11519) & 65535;
        return many <= 0 ? 0 : drawn / 8 % many;
    }

    private void tellFraction(long top, long bottom) {
        long divisor = commonDivisor(top, bottom);
        if (divisor <= 0) {
            return;
        }
        fractionTop = top / divisor;
        fractionBottom = bottom / divisor;
    }

    private static long commonDivisor(long a, long b) {
        long large = a;
        long small = b;
        for (int i = 0; i < 100 && small != 0; i++) {
            long rest = large % small;
            large = small;
            small = rest;
        }
        return large;
    }

    /** Sets of STATES and of pairs of STATES; words as numbers whose digits are LETTERS. */
    private static final class Relations {
        private static final int COLUMN = 73;

        // A bit times a row of 3 bits is that row or nothing.
        static int image(int states, int pairs) {
            return (states & 1) * (pairs & 7)
                    | (states >> 1 & 1) * (pairs >> 3 & 7)
                    | (states >> 2 & 1) * (pairs >> 6 & 7);
        }

        // The same for three rows at once: they lie 3 bits apart, so nothing is carried over.
        static int compose(int first, int second) {
            return (first & COLUMN) * (second & 7)
                    | (first >> 1 & COLUMN) * (second >> 3 & 7)
                    | (first >> 2 & COLUMN) * (second >> 6 & 7);
        }

        static int identity(int states) {
            int pairs = 0;
            for (int p = 0; p < states && p < MOST_STATES; p++) {
                pairs |= 1 << 4 * p;
            }
            return pairs;
        }

        static int pair(int p, int q) {
            return 1 << 3 * p + q;
        }

        static int power(int letters, int n) {
            int product = 1;
            for (int i = 0; i < n && i < LONGEST_TOLD; i++) {
                product *= letters;
            }
            return product;
        }

        static int digit(int code, int letters, int fromLast) {
            int divisor = power(letters, fromLast);
            if (letters <= 0 || divisor <= 0) {
                return 0;
            }
            return code / divisor % letters;
        }
    }

    /** TRAYS 0 to 3; the callers ask for a refusal first. */
    private static final class Trays {
        static final int MOST_TRAYS = 4;
        static final int MOST_PLACES = 60;

        private final long[] values = new long[MOST_TRAYS * MOST_PLACES];
        private final int[] sorts = new int[MOST_TRAYS];
        private final int[] places = new int[MOST_TRAYS];

        Trays() {
            for (int i = 0; i < MOST_TRAYS; i++) {
                places[i] = NONE;
            }
        }

        boolean has(int tray) {
            return within(tray, 0, MOST_TRAYS - 1);
        }

        boolean isMissing(int tray) {
            return places[tray] == NONE;
        }

        int placesOf(int tray) {
            return places[tray];
        }

        int refusal(int tray, int place) {
            if (!has(tray)) {
                return CANNOT_BE_NUMBER;
            }
            if (isMissing(tray)) {
                return TRAY_MISSING;
            }
            return place >= 0 && place < places[tray] ? FINE : NO_PLACE;
        }

        int pourRefusal(int from, int place, int to, int at, int many) {
            if (!has(from) || !has(to) || place < 0 || at < 0 || many < 0) {
                return CANNOT_BE_NUMBER;
            }
            if (isMissing(from) || isMissing(to)) {
                return TRAY_MISSING;
            }
            if (sorts[from] != sorts[to]) {
                return UNLIKE;
            }
            boolean room = (long) place + many <= places[from] && (long) at + many <= places[to];
            return room ? FINE : NO_PLACE;
        }

        void make(int tray, int sort, int many) {
            sorts[tray] = sort;
            places[tray] = many;
            for (int i = 0; i < many; i++) {
                values[tray * MOST_PLACES + i] = 0;
            }
        }

        void set(int tray, int place, long v) {
            values[tray * MOST_PLACES + place] = cut(v, sorts[tray]);
        }

        long get(int tray, int place) {
            return values[tray * MOST_PLACES + place];
        }

        void move(int from, int place, int to, int at, int many) {
            System.arraycopy(values, from * MOST_PLACES + place, values, to * MOST_PLACES + at, many);
        }

        private static long cut(long v, int sort) {
            switch (sort) {
                case 0:
                    return (byte) v;
                case 1:
                    return (short) v;
                case 2:
                    return (int) v;
                default:
                    return v;
            }
        }
    }

    /** An AUTOMATON, with what its RULES come to as sets of pairs. */
    private static final class Automaton {
        int states;
        int symbols;
        int starts;
        int accepts;
        int rules;
        private int calls;
        final int[] letter = new int[MOST_RULES];
        final int[] from = new int[MOST_RULES];
        final int[] to = new int[MOST_RULES];
        final int[] symbol = new int[MOST_RULES];
        // By LETTER, where nothing on the STACK is asked for: all RULES of a CALL and of an
        // INNER LETTER, the EMPTY ones of a RETURN.
        final int[] step = new int[MOST_LETTERS];
        // By LETTER and SYMBOL that is PUSHED or POPPED.
        private final int[] stacked = new int[MOST_LETTERS * 3];

        void clear(int manyCalls, int manyStates, int manySymbols) {
            calls = manyCalls;
            states = manyStates;
            symbols = manySymbols;
            starts = 0;
            accepts = 0;
            rules = 0;
            renew();
        }

        // Takes every word: the neutral other one of a search that is about one AUTOMATON.
        void takeAll() {
            clear(0, 1, 1);
            starts = 1;
            accepts = 1;
            Arrays.fill(step, 1);
            for (int l = 0; l < MOST_LETTERS; l++) {
                stacked[l * 3] = 1;
            }
        }

        void become(Automaton other) {
            calls = other.calls;
            states = other.states;
            symbols = other.symbols;
            starts = other.starts;
            accepts = other.accepts;
            rules = other.rules;
            System.arraycopy(other.letter, 0, letter, 0, MOST_RULES);
            System.arraycopy(other.from, 0, from, 0, MOST_RULES);
            System.arraycopy(other.to, 0, to, 0, MOST_RULES);
            System.arraycopy(other.symbol, 0, symbol, 0, MOST_RULES);
            System.arraycopy(other.step, 0, step, 0, step.length);
            System.arraycopy(other.stacked, 0, stacked, 0, stacked.length);
        }

        boolean hasState(int state) {
            return state >= 0 && state < states;
        }

        boolean hasSymbol(int g) {
            return g >= 0 && g < symbols;
        }

        boolean hasRule(int k) {
            return k >= 0 && k < rules;
        }

        int find(int l, int p, int q, int g) {
            for (int k = 0; k < rules; k++) {
                if (letter[k] == l && from[k] == p && to[k] == q && symbol[k] == g) {
                    return k;
                }
            }
            return NONE;
        }

        void append(int l, int p, int q, int g) {
            if (rules >= MOST_RULES) {
                return;
            }
            letter[rules] = l;
            from[rules] = p;
            to[rules] = q;
            symbol[rules] = g;
            rules++;
            note(rules - 1);
        }

        void remove(int k) {
            for (int i = k; i + 1 < rules; i++) {
                letter[i] = letter[i + 1];
                from[i] = from[i + 1];
                to[i] = to[i + 1];
                symbol[i] = symbol[i + 1];
            }
            rules--;
            renew();
        }

        private void renew() {
            Arrays.fill(step, 0);
            Arrays.fill(stacked, 0);
            for (int k = 0; k < rules; k++) {
                note(k);
            }
        }

        private void note(int k) {
            int pair = Relations.pair(from[k], to[k]);
            if (symbol[k] != NONE) {
                stacked[letter[k] * 3 + symbol[k]] |= pair;
            }
            if (symbol[k] == NONE || letter[k] < calls) {
                step[letter[k]] |= pair;
            }
        }

        // OVER: from ahead of a CALL to behind its RETURN, with such pairs between them.
        int over(int call, int back, int between) {
            int pairs = 0;
            for (int g = 0; g < 3; g++) {
                int pushed = stacked[call * 3 + g];
                int popped = stacked[back * 3 + g];
                if (pushed != 0 && popped != 0) {
                    pairs |= Relations.compose(Relations.compose(pushed, between), popped);
                }
            }
            return pairs;
        }
    }

    /** The CHECKER and its MONITOR: what a MARK keeps. */
    private static final class Setting {
        // LETTERS are numbered CALLS first, then RETURNS, then INNER ones: these are the ends.
        int calls;
        int paired;
        int letters;
        int automata;
        private final Automaton first = new Automaton();
        private final Automaton second = new Automaton();
        final Walk monitor = new Walk();

        void clear() {
            calls = 0;
            paired = 0;
            letters = 0;
            automata = 0;
            monitor.watched = NONE;
        }

        void become(Setting other) {
            calls = other.calls;
            paired = other.paired;
            letters = other.letters;
            automata = other.automata;
            first.become(other.first);
            second.become(other.second);
            monitor.become(other.monitor);
        }

        boolean has(int automaton) {
            return automaton >= 0 && automaton < automata;
        }

        Automaton pick(int automaton) {
            return automaton == 0 ? first : second;
        }

        boolean hasLetter(int letter) {
            return letter >= 0 && letter < letters;
        }

        int sortOf(int letter) {
            if (!hasLetter(letter)) {
                return NONE;
            }
            if (letter < calls) {
                return CALL;
            }
            return letter < paired ? RETURN : INNER;
        }

        int manyOf(int sort) {
            if (sort == CALL) {
                return calls;
            }
            return sort == RETURN ? paired - calls : letters - paired;
        }

        int firstOf(int sort) {
            if (sort == CALL) {
                return 0;
            }
            return sort == RETURN ? calls : paired;
        }

        void addLetter(int sort) {
            calls += sort == CALL ? 1 : 0;
            paired += sort != INNER ? 1 : 0;
            letters++;
        }

        boolean couldHave(Automaton a, int letter, int p, int q, int symbol) {
            if (!hasLetter(letter) || !a.hasState(p) || !a.hasState(q)) {
                return false;
            }
            int sort = sortOf(letter);
            if (symbol == NONE) {
                return sort != CALL;
            }
            return sort != INNER && a.hasSymbol(symbol);
        }

        // The pairs by words all of whose CALLS and RETURNS have PARTNERS.
        int wellPairs(Automaton a) {
            int well = Relations.identity(a.states);
            for (int round = 0; round < 10; round++) {
                int grown = well;
                for (int l = paired; l < letters; l++) {
                    grown |= Relations.compose(grown, a.step[l]);
                }
                for (int c = 0; c < calls; c++) {
                    grown |= Relations.compose(grown, overAny(a, c, grown));
                }
                if (grown == well) {
                    break;
                }
                well = grown;
            }
            return well;
        }

        private int overAny(Automaton a, int call, int between) {
            int pairs = 0;
            for (int r = calls; r < paired; r++) {
                pairs |= a.over(call, r, between);
            }
            return pairs;
        }

        // The STATES to which words lead that leave alone what is on the STACK now.
        int reachable(Automaton a, int from, boolean nothingBelow, int well) {
            int bare = nothingBelow ? from : 0;
            int deep = nothingBelow ? 0 : from;
            for (int round = 0; round < 8; round++) {
                int moreBare = bare | Relations.image(bare, well);
                for (int r = calls; r < paired; r++) {
                    moreBare |= Relations.image(moreBare, a.step[r]);
                }
                int moreDeep = deep | Relations.image(deep, well);
                for (int c = 0; c < calls; c++) {
                    moreDeep |= Relations.image(moreBare | moreDeep, a.step[c]);
                }
                if (moreBare == bare && moreDeep == deep) {
                    break;
                }
                bare = moreBare;
                deep = moreDeep;
            }
            return bare | deep;
        }

        // DOOMED. Each step of a SUMMARY spreads over unions, so all words at once can be
        // followed from the innermost PENDING CALL outwards.
        boolean isLost() {
            Automaton a = pick(monitor.watched);
            int well = wellPairs(a);
            int states = monitor.states;
            int pairs = monitor.pairs;
            for (int d = monitor.pending; d >= 0; d--) {
                if ((reachable(a, states, d == 0, well) & a.accepts) != 0) {
                    return false;
                }
                if (d > 0) {
                    int over = overAny(a, monitor.belowCall[d - 1], Relations.compose(pairs, well));
                    pairs = Relations.compose(monitor.belowPairs[d - 1], over);
                    states = Relations.image(monitor.belowStates[d - 1], over);
                }
            }
            return true;
        }
    }

    /** A word followed by SUMMARIES, LETTER by LETTER. */
    private static final class Walk {
        int watched = NONE;
        int steps;
        int pending;
        int states;
        int pairs;
        final int[] belowStates = new int[MOST_PENDING];
        final int[] belowPairs = new int[MOST_PENDING];
        final int[] belowCall = new int[MOST_PENDING];

        void begin(Automaton a) {
            steps = 0;
            pending = 0;
            states = a.starts;
            pairs = Relations.identity(a.states);
        }

        void go(Automaton a, int letter, int sort) {
            steps++;
            if (sort == CALL && pending < MOST_PENDING) {
                belowStates[pending] = states;
                belowPairs[pending] = pairs;
                belowCall[pending] = letter;
                pending++;
                states = Relations.image(states, a.step[letter]);
                pairs = Relations.identity(a.states);
            } else if (sort == RETURN && pending > 0) {
                pending--;
                int over = a.over(belowCall[pending], letter, pairs);
                states = Relations.image(belowStates[pending], over);
                pairs = Relations.compose(belowPairs[pending], over);
            } else {
                states = Relations.image(states, a.step[letter]);
                pairs = Relations.compose(pairs, a.step[letter]);
            }
        }

        boolean isTaken(Automaton a) {
            return (states & a.accepts) != 0;
        }

        void become(Walk other) {
            watched = other.watched;
            steps = other.steps;
            pending = other.pending;
            states = other.states;
            pairs = other.pairs;
            System.arraycopy(other.belowStates, 0, belowStates, 0, MOST_PENDING);
            System.arraycopy(other.belowPairs, 0, belowPairs, 0, MOST_PENDING);
            System.arraycopy(other.belowCall, 0, belowCall, 0, MOST_PENDING);
        }
    }

    /** Reads a TEXT into a CHECKER, TOKEN by TOKEN, up to the first FAULT. */
    private static final class Reader {
        private static final int END = 0;
        private static final int WORD = 1;
        private static final int NUMBER = 2;
        private static final int SIGN = 3;
        private static final int STRANGE = 4;
        private static final int BLANK = 5;
        private static final int MOST_DIGITS = 4;
        private static final int MOST_NAME = 8;

        // The latest CHECKER read; where it isn't taken, room for the next.
        Setting made = new Setting();
        int taped;
        int faultKind = NONE;
        int faultPlace = NONE;
        private final byte[] tape = new byte[MOST_TEXT];
        private int length;
        private int kind;
        private int place;
        private int size;
        private int value;
        private final int[] namePlace = new int[MOST_LETTERS];
        private final int[] nameSize = new int[MOST_LETTERS];

        void append(int fourBytes) {
            for (int shift = 24; shift >= 0 && taped < MOST_TEXT; shift -= 8) {
                tape[taped] = (byte) (fourBytes >> shift);
                taped++;
            }
        }

        boolean take(int n) {
            length = Math.min(n, MOST_TEXT);
            taped = 0;
            made.clear();
            faultKind = 0;
            faultPlace = NONE;
            place = 0;
            size = 0;
            boolean good = true;
            for (int part = 0; part <= length && good; part++) {
                good = advance();
                if (good && kind == END) {
                    return true;
                }
                good = good && takePart();
            }
            return good;
        }

        private boolean takePart() {
            if (isWord("call")) {
                return takeLetter(CALL);
            }
            if (isWord("ret")) {
                return takeLetter(RETURN);
            }
            if (isWord("inner")) {
                return takeLetter(INNER);
            }
            if (isWord("automaton")) {
                return takeAutomaton();
            }
            if (made.automata == 0) {
                return fail(2);
            }
            if (isWord("start")) {
                return takeStates(true);
            }
            if (isWord("accept")) {
                return takeStates(false);
            }
            return isWord("rule") ? takeRule() : fail(2);
        }

        private boolean takeLetter(int sort) {
            if (made.automata > 0) {
                return fail(5);
            }
            int many = made.manyOf(sort);
            if (many >= MOST_OF_A_SORT) {
                return fail(6);
            }
            if (!advance() || !standsName()) {
                return false;
            }
            if (findName() != NONE) {
                return fail(3);
            }
            namePlace[sort * MOST_OF_A_SORT + many] = place;
            nameSize[sort * MOST_OF_A_SORT + many] = size;
            made.addLetter(sort);
            return advance() && standsSign();
        }

        private boolean takeAutomaton() {
            if (made.automata >= MOST_AUTOMATA) {
                return fail(6);
            }
            if (!advance() || !standsNumber(1, 3)) {
                return false;
            }
            int states = value;
            if (!advance() || !standsWord("symbols")) {
                return false;
            }
            if (!advance() || !standsNumber(1, 3)) {
                return false;
            }
            made.automata++;
            latest().clear(made.calls, states, value);
            return advance() && standsSign();
        }

        private boolean takeStates(boolean areStarts) {
            Automaton a = latest();
            int set = areStarts ? a.starts : a.accepts;
            boolean good = advance();
            for (int i = 0; i < length && good && kind != SIGN; i++) {
                if (!standsNumber(0, a.states - 1)) {
                    return false;
                }
                if ((set >> value & 1) != 0) {
                    return fail(5);
                }
                set |= 1 << value;
                good = advance();
            }
            a.starts = areStarts ? set : a.starts;
            a.accepts = areStarts ? a.accepts : set;
            return good;
        }

        private boolean takeRule() {
            Automaton a = latest();
            if (a.rules >= MOST_RULES) {
                return fail(6);
            }
            if (!advance() || !standsName()) {
                return false;
            }
            int letter = findName();
            if (letter == NONE) {
                return fail(3);
            }
            if (!advance() || !standsNumber(0, a.states - 1)) {
                return false;
            }
            int from = value;
            if (!advance() || !standsNumber(0, a.states - 1)) {
                return false;
            }
            int to = value;
            if (!advance() || !takeSymbol(made.sortOf(letter)) || !standsSign()) {
                return false;
            }
            if (a.find(letter, from, to, value) != NONE) {
                return fail(5);
            }
            a.append(letter, from, to, value);
            return true;
        }

        // Goes to the TOKEN behind what a RULE of such a LETTER tells of the STACK; value is
        // the SYMBOL then, or NONE.
        private boolean takeSymbol(int sort) {
            if (sort == INNER) {
                value = NONE;
                return true;
            }
            int symbol = NONE;
            if (sort == CALL || !isWord("empty")) {
                if (!standsWord(sort == CALL ? "push" : "pop")) {
                    return false;
                }
                if (!advance() || !standsNumber(0, latest().symbols - 1)) {
                    return false;
                }
                symbol = value;
            }
            boolean good = advance();
            value = symbol;
            return good;
        }

        private Automaton latest() {
            return made.pick(made.automata - 1);
        }

        private boolean standsSign() {
            return kind == SIGN || fail(2);
        }

        private boolean standsWord(String word) {
            return isWord(word) || fail(2);
        }

        private boolean standsName() {
            return kind == WORD && size <= MOST_NAME && !isKeyword() || fail(2);
        }

        private boolean standsNumber(int least, int most) {
            if (kind != NUMBER) {
                return fail(2);
            }
            return within(value, least, most) || fail(4);
        }

        private boolean isKeyword() {
            return isWord("call") || isWord("ret") || isWord("inner") || isWord("automaton")
                    || isWord("symbols") || isWord("start") || isWord("accept") || isWord("rule")
                    || isWord("push") || isWord("pop") || isWord("empty");
        }

        private boolean isWord(String word) {
            if (kind != WORD || size != word.length()) {
                return false;
            }
            for (int i = 0; i < size; i++) {
                if (byteAt(place + i) != word.charAt(i)) {
                    return false;
                }
            }
            return true;
        }

        // The LETTER whose NAME the TOKEN is.
        private int findName() {
            for (int sort = CALL; sort <= INNER; sort++) {
                for (int i = 0; i < made.manyOf(sort); i++) {
                    if (isNameAt(sort * MOST_OF_A_SORT + i)) {
                        return made.firstOf(sort) + i;
                    }
                }
            }
            return NONE;
        }

        private boolean isNameAt(int slot) {
            if (slot >= nameSize.length || nameSize[slot] != size) {
                return false;
            }
            for (int i = 0; i < size; i++) {
                if (byteAt(namePlace[slot] + i) != byteAt(place + i)) {
                    return false;
                }
            }
            return true;
        }

        private boolean fail(int what) {
            faultKind = what;
            faultPlace = place;
            return false;
        }

        private int byteAt(int i) {
            return i >= 0 && i < length ? tape[i] : NONE;
        }

        // What sort of TOKEN has such a byte.
        private int kindAt(int i) {
            if (i >= length) {
                return END;
            }
            int b = tape[i];
            if (b >= 'a' && b <= 'z') {
                return WORD;
            }
            if (b >= '0' && b <= '9') {
                return NUMBER;
            }
            if (b == ';') {
                return SIGN;
            }
            return b == 10 || b == 32 ? BLANK : STRANGE;
        }

        // Goes to the next TOKEN; false if none begins so.
        private boolean advance() {
            place += size;
            for (int i = 0; i < length && kindAt(place) == BLANK; i++) {
                place++;
            }
            kind = kindAt(place);
            size = kind == END ? 0 : 1;
            if (kind == WORD || kind == NUMBER) {
                for (int i = 0; i < length && kindAt(place + size) == kind; i++) {
                    size++;
                }
            }
            if (kind == STRANGE || kind == NUMBER && size > MOST_DIGITS) {
                return fail(1);
            }
            if (kind == NUMBER) {
                reckonValue();
            }
            return true;
        }

        private void reckonValue() {
            value = 0;
            for (int i = 0; i < size; i++) {
                value = value * 10 + byteAt(place + i) - '0';
            }
        }
    }

    /** TABLE of an AUTOMATON. */
    private static final class SummaryTable {
        boolean known;
        int size;
        final int[] states = new int[MOST_SUMMARIES];
        final int[] pairs = new int[MOST_SUMMARIES];
        // By pairs: which sets of STATES are in the TABLE with them.
        private final int[] present = new int[PAIR_SETS];
        // OVER by SUMMARY, CALL and RETURN.
        private final int[] overs = new int[MOST_SUMMARIES * 4];

        boolean stands() {
            return size <= MOST_SUMMARIES;
        }

        void build(Setting s, Automaton a) {
            known = true;
            size = 0;
            Arrays.fill(present, 0);
            put(a.starts, Relations.identity(a.states));
            for (int k = 0; k < MOST_SUMMARIES && k < size && stands(); k++) {
                putSteps(s, a, k);
                noteOvers(s, a, k);
                for (int j = 0; j <= k && stands(); j++) {
                    putBacks(s, k, j);
                }
            }
        }

        private void putSteps(Setting s, Automaton a, int k) {
            for (int l = 0; l < s.letters; l++) {
                put(Relations.image(states[k], a.step[l]), pairsAfter(s, a, pairs[k], l));
            }
        }

        private void noteOvers(Setting s, Automaton a, int k) {
            for (int c = 0; c < s.calls; c++) {
                for (int r = s.calls; r < s.paired; r++) {
                    overs[overPlace(s, k, c, r)] = a.over(c, r, pairs[k]);
                }
            }
        }

        private void putBacks(Setting s, int k, int j) {
            for (int c = 0; c < s.calls; c++) {
                for (int r = s.calls; r < s.paired; r++) {
                    putBack(j, overs[overPlace(s, k, c, r)]);
                    if (j < k) {
                        putBack(k, overs[overPlace(s, j, c, r)]);
                    }
                }
            }
        }

        private void putBack(int below, int over) {
            put(Relations.image(states[below], over), Relations.compose(pairs[below], over));
        }

        private static int overPlace(Setting s, int k, int call, int back) {
            return k * 4 + call * 2 + back - s.calls;
        }

        private void put(int set, int relation) {
            if (size > MOST_SUMMARIES || (present[relation] >> set & 1) != 0) {
                return;
            }
            present[relation] |= 1 << set;
            if (size < MOST_SUMMARIES) {
                states[size] = set;
                pairs[size] = relation;
            }
            size++;
        }

        private static int pairsAfter(Setting s, Automaton a, int relation, int letter) {
            if (letter < s.calls) {
                return Relations.identity(a.states);
            }
            return Relations.compose(relation, a.step[letter]);
        }

        int after(Setting s, Automaton a, int k, int letter) {
            return find(Relations.image(states[k], a.step[letter]), pairsAfter(s, a, pairs[k], letter));
        }

        int find(int set, int relation) {
            for (int k = 0; k < size && k < MOST_SUMMARIES; k++) {
                if (states[k] == set && pairs[k] == relation) {
                    return k;
                }
            }
            return NONE;
        }
    }

    /** Things found so far, each with the fewest LETTERS and the first word of so many. */
    private static final class Shelf {
        private static final int ABSENT = 0;
        private static final int OPEN = 1;
        private static final int CLOSED = 2;

        int size;
        final int[] items;
        final int[] length;
        final int[] code;
        private final int[] mood;

        Shelf(int room) {
            int places = Math.max(room, 1);
            items = new int[places];
            length = new int[places];
            code = new int[places];
            mood = new int[places];
        }

        void clear() {
            for (int i = 0; i < size; i++) {
                mood[items[i]] = ABSENT;
            }
            size = 0;
        }

        void offer(int item, int newLength, int newCode) {
            if (item < 0 || item >= mood.length || mood[item] == CLOSED) {
                return;
            }
            if (mood[item] == ABSENT) {
                mood[item] = OPEN;
                items[size] = item;
                size++;
            } else if (!isBefore(newLength, newCode, length[item], code[item])) {
                return;
            }
            length[item] = newLength;
            code[item] = newCode;
        }

        static boolean isBefore(int length, int code, int otherLength, int otherCode) {
            return length < otherLength || length == otherLength && code < otherCode;
        }

        // The fewest LETTERS among those that may still become fewer.
        int nearest() {
            int least = NONE;
            for (int i = 0; i < size; i++) {
                int item = items[i];
                if (mood[item] == OPEN && (least == NONE || length[item] < least)) {
                    least = length[item];
                }
            }
            return least;
        }

        boolean closes(int item, int atLength) {
            if (mood[item] != OPEN || length[item] != atLength) {
                return false;
            }
            mood[item] = CLOSED;
            return true;
        }

        boolean isClosed(int item) {
            return item >= 0 && item < mood.length && mood[item] == CLOSED;
        }
    }

    /**
     * The shortest words of two AUTOMATA at once. Of the left one a single RUN is followed. Of
     * the right one either a single RUN, too (a word that it takes), or all of them (whole: a
     * word that it doesn't take). Things are found in the order of their LETTERS' number, words
     * whose CALLS and RETURNS have PARTNERS first, built of blocks: an INNER LETTER, or such a
     * word between a CALL and its RETURN.
     */
    private static final class Search {
        private static final int ROOM = 64;
        private static final int FAR = 1000000000;

        final int[] foundLength = new int[16];
        final int[] foundCode = new int[16];
        private int foundSlots;
        private int calls;
        private int paired;
        private int letters;
        private final Automaton all = new Automaton();
        private Automaton left = all;
        private Automaton right = all;
        private boolean whole;
        private final Shelf words = new Shelf(9 * ROOM);
        private final Shelf blocks = new Shelf(9 * ROOM);
        private final Shelf nodes = new Shelf(2 * MOST_STATES * STATE_SETS);
        // Few of the 512 sets of pairs come up, so they are numbered as they do.
        private int relations;
        private final int[] relation = new int[ROOM];
        private final int[] number = new int[PAIR_SETS];
        private final int[] powers = new int[LONGEST_TOLD + 1];

        Search() {
            all.takeAll();
            for (int i = 0; i < PAIR_SETS; i++) {
                number[i] = NONE;
            }
        }

        void forgetFound() {
            foundSlots = 0;
        }

        // Where the shortest word of a sort stands, which is looked for if it isn't known.
        int slotOf(Setting s, int sort, int automaton, int other) {
            int slot = (sort * 4 + automaton * 2 + other) & 15;
            if ((foundSlots >> slot & 1) == 0) {
                foundSlots |= 1 << slot;
                Automaton a = sort == TAKEN_BY_NONE ? all : s.pick(automaton);
                Automaton b = sort == TAKEN_BY_ONE ? all : s.pick(other);
                prepare(s, a, b, sort == TAKEN_BY_FIRST_ALONE || sort == TAKEN_BY_NONE);
                findWords();
                findNodes();
                keepBest(slot);
            }
            return slot;
        }

        int wellLength(Setting s, Automaton a, int from, int to) {
            prepare(s, a, all, false);
            findWords();
            int item = itemOf(3 * from + to, Relations.pair(0, 0));
            return words.isClosed(item) ? words.length[item] : NONE;
        }

        private void prepare(Setting s, Automaton a, Automaton b, boolean ofAllRuns) {
            calls = s.calls;
            paired = s.paired;
            letters = s.letters;
            left = a;
            right = b;
            whole = ofAllRuns;
            words.clear();
            blocks.clear();
            nodes.clear();
            for (int i = 0; i < relations; i++) {
                number[relation[i]] = NONE;
            }
            relations = 0;
            for (int i = 0; i <= LONGEST_TOLD; i++) {
                powers[i] = Relations.power(letters, i);
            }
        }

        private int itemOf(int leftPair, int rightPairs) {
            if (number[rightPairs] == NONE) {
                if (relations >= ROOM) {
                    return NONE;
                }
                relation[relations] = rightPairs;
                number[rightPairs] = relations;
                relations++;
            }
            return leftPair * ROOM + number[rightPairs];
        }

        // Offers each pair of the left with the right's pairs, one by one if single RUNS are followed.
        private void offerAll(Shelf shelf, int leftPairs, int rightPairs, int length, int code) {
            for (int pair = 0; pair < 9; pair++) {
                if ((leftPairs >> pair & 1) == 0) {
                    continue;
                }
                if (whole) {
                    shelf.offer(itemOf(pair, rightPairs), length, code);
                    continue;
                }
                for (int bit = 1; bit < PAIR_SETS; bit <<= 1) {
                    if ((rightPairs & bit) != 0) {
                        shelf.offer(itemOf(pair, bit), length, code);
                    }
                }
            }
        }

        private void findWords() {
            offerAll(words, Relations.identity(left.states), Relations.identity(right.states), 0, 0);
            for (int l = paired; l < letters; l++) {
                offerAll(blocks, left.step[l], right.step[l], 1, l);
            }
            for (int round = 0; round < 18 * ROOM; round++) {
                int length = words.nearest();
                int ofBlocks = blocks.nearest();
                if (length == NONE || ofBlocks != NONE && ofBlocks < length) {
                    length = ofBlocks;
                }
                if (length == NONE) {
                    break;
                }
                // A block alone is a word, too: so blocks come first.
                closeBlocks(length);
                closeWords(length);
            }
        }

        private void closeBlocks(int length) {
            for (int i = 0; i < blocks.size; i++) {
                int block = blocks.items[i];
                if (!blocks.closes(block, length)) {
                    continue;
                }
                int end = words.size;
                for (int j = 0; j < end; j++) {
                    if (words.isClosed(words.items[j])) {
                        join(words.items[j], block);
                    }
                }
            }
        }

        // What joins and wraps bring is longer: it waits for a later round.
        private void closeWords(int length) {
            int end = words.size;
            for (int i = 0; i < end; i++) {
                int word = words.items[i];
                if (!words.closes(word, length)) {
                    continue;
                }
                for (int j = 0; j < blocks.size; j++) {
                    if (blocks.isClosed(blocks.items[j])) {
                        join(word, blocks.items[j]);
                    }
                }
                wrap(word);
            }
        }

        private void join(int word, int block) {
            int ahead = word / ROOM;
            int behind = block / ROOM;
            if (ahead % 3 != behind / 3) {
                return;
            }
            int pairs = Relations.compose(relation[word % ROOM], relation[block % ROOM]);
            if (whole || pairs != 0) {
                words.offer(itemOf(ahead / 3 * 3 + behind % 3, pairs),
                        lengthOf(words.length[word], blocks.length[block]),
                        codeOf(words.length[word], words.code[word], blocks.length[block], blocks.code[block]));
            }
        }

        private void wrap(int word) {
            int length = words.length[word];
            for (int c = 0; c < calls; c++) {
                int opened = codeOf(1, c, length, words.code[word]);
                for (int r = calls; r < paired; r++) {
                    offerAll(blocks,
                            left.over(c, r, 1 << word / ROOM),
                            right.over(c, r, relation[word % ROOM]),
                            lengthOf(length, 2),
                            codeOf(lengthOf(length, 1), opened, 1, r));
                }
            }
        }

        private static int lengthOf(int first, int second) {
            return Math.min(first + second, FAR);
        }

        // Words of more LETTERS than are told are not kept apart.
        private int codeOf(int length, int code, int lengthBehind, int codeBehind) {
            return length + lengthBehind > LONGEST_TOLD ? 0 : code * powers[lengthBehind] + codeBehind;
        }

        // A node is whether a CALL is PENDING, the left's STATE, and the right's set of STATES.
        private void findNodes() {
            offerNodes(0, left.starts, right.starts, 0, 0);
            for (int round = 0; round < 2 * MOST_STATES * STATE_SETS; round++) {
                int length = nodes.nearest();
                if (length == NONE) {
                    break;
                }
                int end = nodes.size;
                for (int i = 0; i < end; i++) {
                    int node = nodes.items[i];
                    if (nodes.closes(node, length)) {
                        followBlocks(node);
                        followLetters(node);
                    }
                }
            }
        }

        private void offerNodes(int pending, int leftSet, int rightSet, int length, int code) {
            for (int q = 0; q < MOST_STATES; q++) {
                if ((leftSet >> q & 1) == 0) {
                    continue;
                }
                int base = (pending * MOST_STATES + q) * STATE_SETS;
                if (whole) {
                    nodes.offer(base + rightSet, length, code);
                    continue;
                }
                for (int bit = 1; bit < STATE_SETS; bit <<= 1) {
                    if ((rightSet & bit) != 0) {
                        nodes.offer(base + bit, length, code);
                    }
                }
            }
        }

        private static int stateOf(int node) {
            return node / STATE_SETS % MOST_STATES;
        }

        private static int pendingOf(int node) {
            return node / (STATE_SETS * MOST_STATES);
        }

        private void followBlocks(int node) {
            int length = nodes.length[node];
            for (int i = 0; i < blocks.size; i++) {
                int block = blocks.items[i];
                int pair = block / ROOM;
                if (pair / 3 == stateOf(node)) {
                    offerNodes(pendingOf(node), 1 << pair % 3,
                            Relations.image(node % STATE_SETS, relation[block % ROOM]),
                            lengthOf(length, blocks.length[block]),
                            codeOf(length, nodes.code[node], blocks.length[block], blocks.code[block]));
                }
            }
        }

        private void followLetters(int node) {
            int pending = pendingOf(node);
            int set = 1 << stateOf(node);
            int length = nodes.length[node];
            int end = pending == 0 ? paired : calls;
            for (int l = 0; l < end; l++) {
                offerNodes(l < calls ? 1 : pending,
                        Relations.image(set, left.step[l]),
                        Relations.image(node % STATE_SETS, right.step[l]),
                        lengthOf(length, 1),
                        codeOf(length, nodes.code[node], 1, l));
            }
        }

        private boolean isSought(int node) {
            boolean rightTakes = (node % STATE_SETS & right.accepts) != 0;
            return (left.accepts >> stateOf(node) & 1) != 0 && rightTakes != whole;
        }

        private void keepBest(int slot) {
            foundLength[slot] = NONE;
            foundCode[slot] = 0;
            for (int i = 0; i < nodes.size; i++) {
                int node = nodes.items[i];
                if (isSought(node) && (foundLength[slot] == NONE || Shelf.isBefore(
                        nodes.length[node], nodes.code[node], foundLength[slot], foundCode[slot]))) {
                    foundLength[slot] = nodes.length[node];
                    foundCode[slot] = nodes.code[node];
                }
            }
        }
    }

    /**
     * How many words of a few LETTERS lead to a set of STATES, and the last one of them. Blocks
     * (an INNER LETTER, or a word whose CALLS and RETURNS have PARTNERS between a CALL and its
     * RETURN) are listed one by one: 750 at most of 6 LETTERS and fewer.
     */
    private static final class Tally {
        private static final int LONGEST_INSIDE = LONGEST_TOLD - 2;
        private static final int MOST_INSIDE = 187;
        private static final int MOST_BLOCKS = 750;
        private static final int LENGTHS = LONGEST_TOLD + 1;

        private int calls;
        private int paired;
        private int letters;
        private int insides;
        private final int[] insidePairs = new int[MOST_INSIDE];
        private final int[] insideCode = new int[MOST_INSIDE];
        private final int[] insideEnd = new int[LENGTHS];
        private int blocks;
        private final int[] blockPairs = new int[MOST_BLOCKS];
        private final int[] blockCode = new int[MOST_BLOCKS];
        private final int[] blockEnd = new int[LENGTHS];
        // By whether a CALL is PENDING, LETTERS and set of STATES.
        private final int[] many = new int[2 * LENGTHS * STATE_SETS];
        private final int[] last = new int[2 * LENGTHS * STATE_SETS];

        void reckon(Setting s, Automaton a, int n) {
            calls = s.calls;
            paired = s.paired;
            letters = s.letters;
            listBlocks(a, n);
            Arrays.fill(many, 0);
            Arrays.fill(last, NONE);
            lead(0, 0, a.starts, 1, 0);
            for (int length = 0; length < n; length++) {
                for (int set = 1; set < STATE_SETS; set++) {
                    follow(a, 0, length, set, n);
                    follow(a, 1, length, set, n);
                }
            }
        }

        int taken(Automaton a, int n) {
            int sum = 0;
            for (int set = 1; set < STATE_SETS; set++) {
                if ((set & a.accepts) != 0) {
                    sum += many[placeOf(0, n, set)] + many[placeOf(1, n, set)];
                }
            }
            return sum;
        }

        int lastTaken(Automaton a, int n) {
            int latest = NONE;
            for (int set = 1; set < STATE_SETS; set++) {
                if ((set & a.accepts) != 0) {
                    int either = Math.max(last[placeOf(0, n, set)], last[placeOf(1, n, set)]);
                    latest = Math.max(latest, either);
                }
            }
            return latest;
        }

        private static int placeOf(int pending, int length, int set) {
            return (pending * LENGTHS + length) * STATE_SETS + set;
        }

        private void listBlocks(Automaton a, int n) {
            insides = 0;
            blocks = 0;
            addInside(Relations.identity(a.states), 0);
            insideEnd[0] = insides;
            blockEnd[0] = 0;
            for (int length = 1; length <= n; length++) {
                if (length == 1) {
                    addInnerBlocks(a);
                } else {
                    addWrapped(a, length);
                }
                blockEnd[length] = blocks;
                if (length <= LONGEST_INSIDE) {
                    addJoined(length);
                }
                insideEnd[length] = insides;
            }
        }

        private void addInnerBlocks(Automaton a) {
            for (int l = paired; l < letters; l++) {
                addBlock(a.step[l], l);
            }
        }

        private void addWrapped(Automaton a, int length) {
            int inside = length - 2;
            for (int i = inside == 0 ? 0 : insideEnd[inside - 1]; i < insideEnd[inside]; i++) {
                for (int c = 0; c < calls; c++) {
                    int opened = codeOf(c, inside, insideCode[i]);
                    for (int r = calls; r < paired; r++) {
                        addBlock(a.over(c, r, insidePairs[i]), codeOf(opened, 1, r));
                    }
                }
            }
        }

        private void addJoined(int length) {
            for (int behind = 1; behind <= length; behind++) {
                int ahead = length - behind;
                for (int i = ahead == 0 ? 0 : insideEnd[ahead - 1]; i < insideEnd[ahead]; i++) {
                    for (int b = blockEnd[behind - 1]; b < blockEnd[behind]; b++) {
                        addInside(Relations.compose(insidePairs[i], blockPairs[b]),
                                codeOf(insideCode[i], behind, blockCode[b]));
                    }
                }
            }
        }

        private void addInside(int pairs, int code) {
            if (insides < MOST_INSIDE) {
                insidePairs[insides] = pairs;
                insideCode[insides] = code;
                insides++;
            }
        }

        private void addBlock(int pairs, int code) {
            if (blocks < MOST_BLOCKS) {
                blockPairs[blocks] = pairs;
                blockCode[blocks] = code;
                blocks++;
            }
        }

        private int codeOf(int code, int lengthBehind, int codeBehind) {
            return code * Relations.power(letters, lengthBehind) + codeBehind;
        }

        // All words on from those of one place; words that no RUN can take are let go.
        private void follow(Automaton a, int pending, int length, int set, int n) {
            int place = placeOf(pending, length, set);
            int words = many[place];
            if (words == 0) {
                return;
            }
            for (int more = 1; length + more <= n; more++) {
                int base = codeOf(last[place], more, 0);
                for (int b = blockEnd[more - 1]; b < blockEnd[more]; b++) {
                    lead(pending, length + more, Relations.image(set, blockPairs[b]), words, base + blockCode[b]);
                }
            }
            int end = pending == 0 ? paired : calls;
            for (int l = 0; l < end; l++) {
                lead(l < calls ? 1 : pending, length + 1,
                        Relations.image(set, a.step[l]), words, codeOf(last[place], 1, l));
            }
        }

        private void lead(int pending, int length, int set, int words, int code) {
            int place = placeOf(pending, length, set);
            many[place] += words;
            last[place] = Math.max(last[place], code);
        }
    }

    /** How many RUNS of a word there are: by pairs of STATES, within each PENDING CALL. */
    private static final class RunCount {
        private static final int PAIRS = 9;

        private int pending;
        private final long[] now = new long[PAIRS];
        private final long[] scratch = new long[PAIRS];
        private final long[] below = new long[LONGEST_WORD * PAIRS];
        private final int[] belowCall = new int[LONGEST_WORD];
        private long[] ends = new long[MOST_STATES];
        private long[] more = new long[MOST_STATES];

        void begin() {
            pending = 0;
            setIdentity();
        }

        private void setIdentity() {
            for (int i = 0; i < PAIRS; i++) {
                now[i] = i % 4 == 0 ? 1 : 0;
            }
        }

        void go(Automaton a, int letter, int sort) {
            if (sort == CALL && pending < LONGEST_WORD) {
                System.arraycopy(now, 0, below, pending * PAIRS, PAIRS);
                belowCall[pending] = letter;
                pending++;
                setIdentity();
            } else if (sort == RETURN && pending > 0) {
                pending--;
                goBack(a, belowCall[pending], letter);
            } else {
                goAlong(a, letter);
            }
        }

        // RULES that POP don't count here: there is nothing on the STACK.
        private void goAlong(Automaton a, int letter) {
            Arrays.fill(scratch, 0);
            for (int k = 0; k < a.rules; k++) {
                if (a.letter[k] == letter && a.symbol[k] == NONE) {
                    addColumn(now, 0, a.from[k], a.to[k]);
                }
            }
            System.arraycopy(scratch, 0, now, 0, PAIRS);
        }

        private void addColumn(long[] source, int offset, int from, int to) {
            for (int p = 0; p < MOST_STATES; p++) {
                scratch[3 * p + to] += source[offset + 3 * p + from];
            }
        }

        private void goBack(Automaton a, int call, int letter) {
            Arrays.fill(scratch, 0);
            for (int c = 0; c < a.rules; c++) {
                if (a.letter[c] != call) {
                    continue;
                }
                for (int r = 0; r < a.rules; r++) {
                    if (a.letter[r] == letter && a.symbol[r] == a.symbol[c]) {
                        scratch[3 * a.from[c] + a.to[r]] += now[3 * a.to[c] + a.from[r]];
                    }
                }
            }
            for (int p = 0; p < MOST_STATES; p++) {
                for (int q = 0; q < MOST_STATES; q++) {
                    now[3 * p + q] = productAt(p, q);
                }
            }
        }

        private long productAt(int p, int q) {
            long sum = 0;
            for (int m = 0; m < MOST_STATES; m++) {
                sum += below[pending * PAIRS + 3 * p + m] * scratch[3 * m + q];
            }
            return sum;
        }

        // The RUNS that end in an ACCEPT, through all that is PENDING.
        long total(Automaton a) {
            for (int q = 0; q < MOST_STATES; q++) {
                ends[q] = a.starts >> q & 1;
            }
            for (int d = 0; d < pending; d++) {
                leadOver(below, d * PAIRS);
                leadByCall(a, belowCall[d]);
            }
            leadOver(now, 0);
            long sum = 0;
            for (int q = 0; q < MOST_STATES; q++) {
                sum += (a.accepts >> q & 1) != 0 ? ends[q] : 0;
            }
            return sum;
        }

        private void leadOver(long[] matrix, int offset) {
            Arrays.fill(more, 0);
            for (int i = 0; i < PAIRS; i++) {
                more[i % 3] += ends[i / 3] * matrix[offset + i];
            }
            swap();
        }

        private void leadByCall(Automaton a, int call) {
            Arrays.fill(more, 0);
            for (int k = 0; k < a.rules; k++) {
                if (a.letter[k] == call) {
                    more[a.to[k]] += ends[a.from[k]];
                }
            }
            swap();
        }

        private void swap() {
            long[] old = ends;
            ends = more;
            more = old;
        }
    }
}

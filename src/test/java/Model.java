import java.util.ArrayList;
import java.util.Arrays;
import java.util.HashMap;
import java.util.List;
import java.util.Map;

/** The whole face once more, in the document's words and as slow as they are. */
final class Model {
    private static final int NONE = -1;

    /** What the MONITOR saw; below are R, S and the CALL of each that is PENDING. */
    private record Monitor(int automaton, int saw, Plain.Summary now, List<Plain.Summary> below, List<Integer> calls) {
    }

    private record Kept(Plain plain, Monitor monitor) {
    }

    private int status;
    private long top = 0;
    private long bottom = 1;
    private final long[][] trays = new long[4][];
    private final int[] sorts = new int[4];
    private final StringBuilder tape = new StringBuilder();
    private int faultKind = NONE;
    private int faultPlace = NONE;
    private Plain plain = new Plain();
    private Monitor monitor;
    private final List<Kept> marks = new ArrayList<>();
    private long s;

    int status() {
        return status;
    }

    long top() {
        return top;
    }

    long bottom() {
        return bottom;
    }

    private int no(int why) {
        status = why;
        return NONE;
    }

    private boolean not(int why) {
        status = why;
        return false;
    }

    private int yes(int answer) {
        status = 0;
        return answer;
    }

    private boolean yes() {
        status = 0;
        return true;
    }

    private static boolean isIn(int v, int least, int most) {
        return least <= v && v <= most;
    }

    private void tell(long over, long under) {
        long divisor = 1;
        for (long d = 2; d <= under; d++) {
            if (over % d == 0 && under % d == 0) {
                divisor = d;
            }
        }
        top = over / divisor;
        bottom = under / divisor;
    }

    // ---- TRAYS

    boolean tray(int tray, int sort, int many) {
        if (!isIn(tray, 0, 3) || !isIn(sort, 0, 3) || !isIn(many, 0, 60)) {
            return not(1);
        }
        trays[tray] = new long[many];
        sorts[tray] = sort;
        return yes();
    }

    private int placeStatus(int tray, int place) {
        if (!isIn(tray, 0, 3)) {
            return 1;
        }
        if (trays[tray] == null) {
            return 2;
        }
        return isIn(place, 0, trays[tray].length - 1) ? 0 : 3;
    }

    boolean write(int tray, int place, long v) {
        int why = placeStatus(tray, place);
        if (why != 0) {
            return not(why);
        }
        int bits = 8 << sorts[tray];
        trays[tray][place] = v << 64 - bits >> 64 - bits;
        return yes();
    }

    long read(int tray, int place) {
        status = placeStatus(tray, place);
        return status != 0 ? NONE : trays[tray][place];
    }

    boolean pour(int from, int place, int to, int at, int many) {
        if (!isIn(from, 0, 3) || !isIn(to, 0, 3) || place < 0 || at < 0 || many < 0) {
            return not(1);
        }
        if (trays[from] == null || trays[to] == null) {
            return not(2);
        }
        if (sorts[from] != sorts[to]) {
            return not(8);
        }
        if ((long) place + many > trays[from].length || (long) at + many > trays[to].length) {
            return not(3);
        }
        long[] were = trays[from].clone();
        for (int i = 0; i < many; i++) {
            trays[to][at + i] = were[place + i];
        }
        return yes();
    }

    // ---- the text

    int feed(int a, int b, int c, int d, int e) {
        if (tape.length() + 20 > 900) {
            return NONE;
        }
        for (int four : new int[] {a, b, c, d, e}) {
            for (int k = 3; k >= 0; k--) {
                tape.append((char) (four >>> 8 * k & 255));
            }
        }
        return tape.length();
    }

    int tell(String text) {
        tape.setLength(0);
        tape.append(text);
        return checker(text.length());
    }

    int checker(int n) {
        if (n < 0 || n > tape.length()) {
            return no(1);
        }
        PlainReader reader = new PlainReader(tape.substring(0, n));
        tape.setLength(0);
        faultKind = reader.kind;
        faultPlace = reader.place;
        if (reader.kind != 0) {
            return no(9);
        }
        plain = reader.made;
        monitor = null;
        return yes(plain.autos.size());
    }

    int fault(int what) {
        return what == 0 ? faultKind : what == 1 ? faultPlace : NONE;
    }

    int told(int what) {
        if (!isIn(what, 0, 3)) {
            return no(1);
        }
        return yes(List.of(plain.calls, plain.returns, plain.inners, plain.autos.size()).get(what));
    }

    private boolean isAutomaton(int automaton) {
        return isIn(automaton, 0, plain.autos.size() - 1);
    }

    private boolean areTwo(int automaton, int other) {
        return isAutomaton(automaton) && isAutomaton(other) && automaton != other;
    }

    private boolean isState(int automaton, int state) {
        return isAutomaton(automaton) && isIn(state, 0, auto(automaton).states - 1);
    }

    private boolean isLetter(int letter) {
        return isIn(letter, 0, plain.letters() - 1);
    }

    private Plain.Auto auto(int automaton) {
        return plain.autos.get(automaton);
    }

    int automaton(int automaton, int what) {
        if (!isAutomaton(automaton) || !isIn(what, 0, 4)) {
            return no(1);
        }
        Plain.Auto a = auto(automaton);
        return yes(List.of(a.states, a.symbols, a.starts, a.accepts, a.rules.size()).get(what));
    }

    int rule(int automaton, int k, int what) {
        if (!isAutomaton(automaton) || !isIn(k, 0, auto(automaton).rules.size() - 1) || !isIn(what, 0, 3)) {
            return no(1);
        }
        Plain.Rule rule = auto(automaton).rules.get(k);
        if (what == 3 && rule.symbol() == NONE) {
            return no(6);
        }
        return yes(List.of(rule.letter(), rule.from(), rule.to(), rule.symbol()).get(what));
    }

    // ---- what is done

    int add(int automaton, int letter, int from, int to, int symbol) {
        if (!isState(automaton, from) || !isState(automaton, to) || !isLetter(letter)) {
            return no(1);
        }
        Plain.Auto a = auto(automaton);
        boolean none = symbol == NONE;
        if (!none && !isIn(symbol, 0, a.symbols - 1)) {
            return no(1);
        }
        if (plain.isCall(letter) && none || !plain.isCall(letter) && !plain.isReturn(letter) && !none) {
            return no(1);
        }
        if (a.rules.size() == 20) {
            return no(4);
        }
        Plain.Rule rule = new Plain.Rule(letter, from, to, symbol);
        if (a.rules.contains(rule)) {
            return no(7);
        }
        a.rules.add(rule);
        return yes(a.rules.size());
    }

    int drop(int automaton, int k) {
        if (!isAutomaton(automaton) || !isIn(k, 0, auto(automaton).rules.size() - 1)) {
            return no(1);
        }
        auto(automaton).rules.remove(k);
        return yes(auto(automaton).rules.size());
    }

    int start(int automaton, int state, boolean is) {
        if (!isState(automaton, state)) {
            return no(1);
        }
        if ((auto(automaton).starts >> state & 1) == (is ? 1 : 0)) {
            return no(7);
        }
        auto(automaton).starts ^= 1 << state;
        return yes(auto(automaton).starts);
    }

    int accept(int automaton, int state, boolean is) {
        if (!isState(automaton, state)) {
            return no(1);
        }
        if ((auto(automaton).accepts >> state & 1) == (is ? 1 : 0)) {
            return no(7);
        }
        auto(automaton).accepts ^= 1 << state;
        return yes(auto(automaton).accepts);
    }

    boolean copy(int automaton, int other) {
        if (!areTwo(automaton, other)) {
            return not(1);
        }
        plain.autos.set(other, auto(automaton).copy());
        return yes();
    }

    // ---- words

    private int wordStatus(boolean numbersCanBe, int tray, int n) {
        if (!numbersCanBe || !isIn(tray, 0, 3) || !isIn(n, 0, 20)) {
            return 1;
        }
        if (trays[tray] == null) {
            return 2;
        }
        if (trays[tray].length < n) {
            return 3;
        }
        for (int i = 0; i < n; i++) {
            if (trays[tray][i] < 0 || trays[tray][i] > plain.letters() - 1) {
                return 5;
            }
        }
        return 0;
    }

    private int[] word(int tray, int n) {
        int[] w = new int[n];
        for (int i = 0; i < n; i++) {
            w[i] = (int) trays[tray][i];
        }
        return w;
    }

    int takes(int automaton, int tray, int n) {
        status = wordStatus(isAutomaton(automaton), tray, n);
        return status != 0 ? NONE : waysTo(auto(automaton), word(tray, n), auto(automaton).accepts) > 0 ? 1 : 0;
    }

    int ends(int automaton, int tray, int n) {
        status = wordStatus(isAutomaton(automaton), tray, n);
        int set = 0;
        for (int q = 0; status == 0 && q < auto(automaton).states; q++) {
            set |= waysTo(auto(automaton), word(tray, n), 1 << q) > 0 ? 1 << q : 0;
        }
        return status != 0 ? NONE : set;
    }

    boolean runs(int automaton, int tray, int n) {
        status = wordStatus(isAutomaton(automaton), tray, n);
        if (status == 0) {
            top = waysTo(auto(automaton), word(tray, n), auto(automaton).accepts);
            bottom = 1;
        }
        return status == 0;
    }

    private long waysTo(Plain.Auto a, int[] word, int goals) {
        long sum = 0;
        long[][][] known = new long[word.length + 1][3][];
        for (int p = 0; p < a.states; p++) {
            long[] ways = (a.starts >> p & 1) == 0 ? new long[3] : ways(a, word, 0, word.length, p, known);
            for (int q = 0; q < 3; q++) {
                sum += (goals >> q & 1) != 0 ? ways[q] : 0;
            }
        }
        return sum;
    }

    /** By how many RUNS the LETTERS from one place to ahead of another lead from a STATE to each. */
    private long[] ways(Plain.Auto a, int[] word, int from, int to, int state, long[][][] known) {
        if (known[from][state] != null) {
            return known[from][state];
        }
        long[] now = new long[3];
        now[state] = 1;
        for (int i = from; i < to; i++) {
            long[] then = new long[3];
            int back = plain.partner(word, i);
            boolean hasBack = plain.isCall(word[i]) && back != NONE && back < to;
            for (Plain.Rule rule : a.rules) {
                if (rule.letter() != word[i] || now[rule.from()] == 0 || plain.isReturn(word[i]) && rule.symbol() != NONE) {
                    continue;
                }
                if (!hasBack) {
                    then[rule.to()] += now[rule.from()];
                    continue;
                }
                long[] inside = ways(a, word, i + 1, back, rule.to(), known);
                for (Plain.Rule r : a.rules) {
                    if (r.letter() == word[back] && r.symbol() == rule.symbol()) {
                        then[r.to()] += now[rule.from()] * inside[r.from()];
                    }
                }
            }
            now = then;
            i = hasBack ? back : i;
        }
        // From behind a CALL that has a PARTNER it is always to the same place.
        known[from][state] = now;
        return now;
    }

    int depth(int tray, int n, int what) {
        status = wordStatus(isIn(what, 0, 2), tray, n);
        if (status != 0) {
            return NONE;
        }
        int[] w = word(tray, n);
        return what == 0 ? plain.pending(w) : what == 1 ? plain.loose(w) : plain.deepest(w);
    }

    int partner(int tray, int n, int k) {
        status = wordStatus(isIn(k, 0, n - 1), tray, n);
        if (status != 0) {
            return NONE;
        }
        int place = plain.partner(word(tray, n), k);
        return place == NONE ? no(6) : place;
    }

    // ---- the table

    int table(int automaton) {
        if (!isAutomaton(automaton)) {
            return no(1);
        }
        List<Plain.Summary> t = plain.table(auto(automaton));
        return t == null ? no(7) : yes(t.size());
    }

    private int summaryStatus(boolean numbersCanBe, int automaton, int... ks) {
        if (!numbersCanBe) {
            return 1;
        }
        List<Plain.Summary> t = plain.table(auto(automaton));
        if (t == null) {
            return 7;
        }
        for (int k : ks) {
            if (!isIn(k, 0, t.size() - 1)) {
                return 6;
            }
        }
        return 0;
    }

    int summary(int automaton, int k, int what) {
        status = summaryStatus(isAutomaton(automaton) && isIn(what, 0, 2), automaton, k);
        if (status != 0) {
            return NONE;
        }
        Plain.Summary x = plain.table(auto(automaton)).get(k);
        return what == 0 ? x.r() : what == 1 ? x.pairs() : (x.r() & auto(automaton).accepts) != 0 ? 1 : 0;
    }

    int next(int automaton, int k, int letter) {
        status = summaryStatus(isAutomaton(automaton) && isLetter(letter), automaton, k);
        if (status != 0) {
            return NONE;
        }
        List<Plain.Summary> t = plain.table(auto(automaton));
        return t.indexOf(plain.by(auto(automaton), t.get(k), letter));
    }

    int nextBack(int automaton, int k, int letter, int j, int call) {
        boolean can = isAutomaton(automaton) && isLetter(letter) && plain.isReturn(letter) && isLetter(call) && plain.isCall(call);
        status = summaryStatus(can, automaton, k, j);
        if (status != 0) {
            return NONE;
        }
        List<Plain.Summary> t = plain.table(auto(automaton));
        return t.indexOf(plain.back(auto(automaton), t.get(k), letter, t.get(j), call));
    }

    // ---- the shortest words; NONE and STATUS -1 if there are too many deeds

    private static final int UNKNOWN = -1;

    // Those reckoned latest, as they cost the most: for as long as the CHECKER's text is the same.
    private final Map<String, Deeds> reckoned = new HashMap<>();

    private Deeds deeds(int... automata) {
        List<Plain.Auto> of = new ArrayList<>();
        for (int a : automata) {
            of.add(auto(a).copy());
        }
        if (reckoned.size() > 6) {
            reckoned.clear();
        }
        return reckoned.computeIfAbsent(Arrays.toString(automata) + plain.text(), key -> new Deeds(plain, of));
    }

    int well(int automaton, int state, int other) {
        if (!isState(automaton, state) || !isState(automaton, other)) {
            return no(1);
        }
        Deeds deeds = deeds(automaton);
        if (!deeds.isKnown()) {
            return no(UNKNOWN);
        }
        int length = deeds.wellLength(state, other);
        return length == NONE ? no(6) : yes(length);
    }

    int reaches(int automaton) {
        if (!isAutomaton(automaton)) {
            return no(1);
        }
        Deeds deeds = deeds(automaton);
        return deeds.isKnown() ? yes(deeds.reaches()) : no(UNKNOWN);
    }

    private int length(Deeds deeds, Deeds.Sort sort) {
        if (!deeds.isKnown()) {
            return no(UNKNOWN);
        }
        String word = deeds.shortest(sort);
        return word == null ? no(6) : yes(word.length());
    }

    private int letterAt(Deeds deeds, Deeds.Sort sort, int k) {
        if (!deeds.isKnown()) {
            return no(UNKNOWN);
        }
        String word = deeds.shortest(sort);
        if (word == null || k >= word.length()) {
            return no(6);
        }
        return word.length() > 6 ? no(7) : yes(word.charAt(k) - '0');
    }

    private Deeds.Sort taken(int automaton) {
        return sets -> (sets.get(0) & auto(automaton).accepts) != 0;
    }

    private Deeds.Sort notTaken(int automaton) {
        return sets -> (sets.get(0) & auto(automaton).accepts) == 0;
    }

    private Deeds.Sort taken(int automaton, int other, boolean byOther) {
        return sets -> (sets.get(0) & auto(automaton).accepts) != 0 && (sets.get(1) & auto(other).accepts) != 0 == byOther;
    }

    private boolean hasTable(int automaton) {
        return plain.table(auto(automaton)) != null;
    }

    int shortest(int automaton) {
        return !isAutomaton(automaton) ? no(1) : length(deeds(automaton), taken(automaton));
    }

    int shortestAt(int automaton, int k) {
        return !isAutomaton(automaton) || k < 0 ? no(1) : letterAt(deeds(automaton), taken(automaton), k);
    }

    int both(int automaton, int other) {
        return !areTwo(automaton, other) ? no(1) : length(deeds(automaton, other), taken(automaton, other, true));
    }

    int bothAt(int automaton, int other, int k) {
        if (!areTwo(automaton, other) || k < 0) {
            return no(1);
        }
        return letterAt(deeds(automaton, other), taken(automaton, other, true), k);
    }

    int parting(int automaton, int other) {
        if (!areTwo(automaton, other)) {
            return no(1);
        }
        return !hasTable(other) ? no(7) : length(deeds(automaton, other), taken(automaton, other, false));
    }

    int partingAt(int automaton, int other, int k) {
        if (!areTwo(automaton, other) || k < 0) {
            return no(1);
        }
        return !hasTable(other) ? no(7) : letterAt(deeds(automaton, other), taken(automaton, other, false), k);
    }

    int missing(int automaton) {
        if (!isAutomaton(automaton)) {
            return no(1);
        }
        return !hasTable(automaton) ? no(7) : length(deeds(automaton), notTaken(automaton));
    }

    int missingAt(int automaton, int k) {
        if (!isAutomaton(automaton) || k < 0) {
            return no(1);
        }
        return !hasTable(automaton) ? no(7) : letterAt(deeds(automaton), notTaken(automaton), k);
    }

    int includes(int automaton, int other) {
        if (!areTwo(automaton, other)) {
            return no(1);
        }
        if (!hasTable(other)) {
            return no(7);
        }
        Deeds deeds = deeds(automaton, other);
        return !deeds.isKnown() ? no(UNKNOWN) : yes(deeds.shortest(taken(automaton, other, false)) == null ? 1 : 0);
    }

    int equal(int automaton, int other) {
        if (!areTwo(automaton, other)) {
            return no(1);
        }
        if (!hasTable(other) || !hasTable(automaton)) {
            return no(7);
        }
        Deeds deeds = deeds(automaton, other);
        if (!deeds.isKnown()) {
            return no(UNKNOWN);
        }
        String unlike = deeds.shortest(sets -> (sets.get(0) & auto(automaton).accepts) != 0 != ((sets.get(1) & auto(other).accepts) != 0));
        return yes(unlike == null ? 1 : 0);
    }

    // ---- how many words

    private int[] lastWord;

    private int countAll(Plain.Auto a, int n) {
        lastWord = null;
        return countOn(a, new int[n], 0);
    }

    private int countOn(Plain.Auto a, int[] word, int at) {
        if (at == word.length) {
            boolean is = waysTo(a, word, a.accepts) > 0;
            lastWord = is ? word.clone() : lastWord;
            return is ? 1 : 0;
        }
        int sum = 0;
        for (int l = 0; l < plain.letters(); l++) {
            word[at] = l;
            // A beginning that no RUN can go along has no word behind it.
            if (waysTo(a, Arrays.copyOf(word, at + 1), 7) > 0) {
                sum += countOn(a, word, at + 1);
            }
        }
        return sum;
    }

    int count(int automaton, int n) {
        if (!isAutomaton(automaton) || !isIn(n, 0, 6)) {
            return no(1);
        }
        return yes(countAll(auto(automaton), n));
    }

    boolean share(int automaton, int n) {
        if (!isAutomaton(automaton) || !isIn(n, 0, 6)) {
            return not(1);
        }
        long all = 1;
        for (int i = 0; i < n; i++) {
            all *= plain.letters();
        }
        if (all == 0) {
            return not(6);
        }
        tell(countAll(auto(automaton), n), all);
        return yes();
    }

    int lastAt(int automaton, int n, int k) {
        if (!isAutomaton(automaton) || !isIn(n, 1, 6) || !isIn(k, 0, n - 1)) {
            return no(1);
        }
        countAll(auto(automaton), n);
        return lastWord == null ? no(6) : yes(lastWord[k]);
    }

    private int draw(int n) {
        s = (s * 3287 + 11519) % 65536;
        return (int) (s / 8 % n);
    }

    boolean sample(int tray, int n, int seed) {
        if (!isIn(tray, 0, 3) || !isIn(n, 0, 20) || !isIn(seed, 0, 9999)) {
            return not(1);
        }
        if (trays[tray] == null) {
            return not(2);
        }
        if (trays[tray].length < n) {
            return not(3);
        }
        if (plain.letters() == 0 && n > 0) {
            return not(6);
        }
        s = seed;
        for (int i = 0; i < n; i++) {
            trays[tray][i] = draw(plain.letters());
        }
        return yes();
    }

    boolean chance(int automaton, int n, int many, int seed) {
        if (!isAutomaton(automaton) || !isIn(n, 0, 20) || !isIn(many, 1, 50) || !isIn(seed, 0, 9999)) {
            return not(1);
        }
        if (plain.letters() == 0 && n > 0) {
            return not(6);
        }
        s = seed;
        int taken = 0;
        for (int i = 0; i < many; i++) {
            int[] word = new int[n];
            for (int k = 0; k < n; k++) {
                word[k] = draw(plain.letters());
            }
            taken += waysTo(auto(automaton), word, auto(automaton).accepts) > 0 ? 1 : 0;
        }
        tell(taken, many);
        return yes();
    }

    // ---- the MONITOR

    int watch(int automaton) {
        if (!isAutomaton(automaton)) {
            return no(1);
        }
        monitor = new Monitor(automaton, 0, plain.first(auto(automaton)), List.of(), List.of());
        return yes(seesTaken());
    }

    private int seesTaken() {
        return (monitor.now.r() & auto(monitor.automaton).accepts) != 0 ? 1 : 0;
    }

    int see(int letter) {
        if (!isLetter(letter)) {
            return no(1);
        }
        if (monitor == null) {
            return no(6);
        }
        if (plain.isCall(letter) && monitor.below.size() == 30) {
            return no(4);
        }
        Plain.Auto a = auto(monitor.automaton);
        List<Plain.Summary> below = new ArrayList<>(monitor.below);
        List<Integer> calls = new ArrayList<>(monitor.calls);
        Plain.Summary then;
        if (plain.isReturn(letter) && !below.isEmpty()) {
            int last = below.size() - 1;
            then = plain.back(a, monitor.now, letter, below.remove(last), calls.remove(last));
        } else {
            then = plain.by(a, monitor.now, letter);
        }
        if (plain.isCall(letter)) {
            below.add(monitor.now);
            calls.add(letter);
        }
        monitor = new Monitor(monitor.automaton, monitor.saw + 1, then, below, calls);
        return yes(seesTaken());
    }

    int seen(int what) {
        if (!isIn(what, 0, 4)) {
            return no(1);
        }
        if (monitor == null) {
            return no(6);
        }
        return yes(List.of(monitor.automaton, monitor.saw, monitor.below.size(), monitor.now.r(), seesTaken()).get(what));
    }

    int doomed() {
        if (monitor == null) {
            return no(6);
        }
        Deeds deeds = deeds(monitor.automaton);
        if (!deeds.isKnown()) {
            return no(UNKNOWN);
        }
        List<int[]> below = new ArrayList<>();
        for (int i = 0; i < monitor.below.size(); i++) {
            below.add(new int[] {monitor.below.get(i).r(), monitor.below.get(i).pairs(), monitor.calls.get(i)});
        }
        return yes(deeds.isLost(monitor.now.r(), monitor.now.pairs(), below) ? 1 : 0);
    }

    // ---- MARKS

    private static Plain copyOf(Plain plain) {
        Plain copy = new Plain();
        copy.calls = plain.calls;
        copy.returns = plain.returns;
        copy.inners = plain.inners;
        for (Plain.Auto a : plain.autos) {
            copy.autos.add(a.copy());
        }
        return copy;
    }

    int mark() {
        if (marks.size() == 3) {
            return no(4);
        }
        marks.add(new Kept(copyOf(plain), monitor));
        return yes(marks.size());
    }

    int undo() {
        if (marks.isEmpty()) {
            return no(6);
        }
        Kept kept = marks.remove(marks.size() - 1);
        plain = kept.plain;
        monitor = kept.monitor;
        return yes(marks.size());
    }
}

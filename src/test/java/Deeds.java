import java.util.ArrayList;
import java.util.HashMap;
import java.util.HashSet;
import java.util.List;
import java.util.Map;
import java.util.Set;

/**
 * Words of any length by what they do: for one or two AUTOMATA the pairs of STATES between which a
 * word leads, all RUNS at once. Of each such deed the first of the shortest words is known, so what is
 * told of lengths and of words that there are none of is exact. There may be too many deeds to go on.
 */
final class Deeds {
    private static final int MOST = 600;

    private final Plain plain;
    private final List<Plain.Auto> autos;
    private final Map<List<Integer>, String> well = new HashMap<>();
    private final Map<List<Integer>, String> ends = new HashMap<>();

    Deeds(Plain plain, List<Plain.Auto> autos) {
        this.plain = plain;
        this.autos = autos;
        findWell();
        if (isKnown()) {
            findEnds();
        }
    }

    boolean isKnown() {
        return well.size() <= MOST;
    }

    // ---- pairs of STATES, bit 3 * p + q

    static int join(int first, int second) {
        int pairs = 0;
        for (int p = 0; p < 3; p++) {
            for (int m = 0; m < 3; m++) {
                for (int q = 0; q < 3; q++) {
                    if ((first >> 3 * p + m & 1) != 0 && (second >> 3 * m + q & 1) != 0) {
                        pairs |= 1 << 3 * p + q;
                    }
                }
            }
        }
        return pairs;
    }

    static int lead(int set, int pairs) {
        int led = 0;
        for (int p = 0; p < 3; p++) {
            for (int q = 0; q < 3; q++) {
                if ((set >> p & 1) != 0 && (pairs >> 3 * p + q & 1) != 0) {
                    led |= 1 << q;
                }
            }
        }
        return led;
    }

    static int same(Plain.Auto a) {
        return a.states == 1 ? 1 : a.states == 2 ? 17 : 273;
    }

    /** The pairs of a LETTER's RULES; of a RETURN of the EMPTY ones. */
    int by(Plain.Auto a, int letter) {
        int pairs = 0;
        for (Plain.Rule rule : a.rules) {
            if (rule.letter() == letter && (plain.isCall(letter) || rule.symbol() == Plain.NONE)) {
                pairs |= 1 << 3 * rule.from() + rule.to();
            }
        }
        return pairs;
    }

    static int over(Plain.Auto a, int call, int back, int between) {
        int pairs = 0;
        for (Plain.Rule c : a.rules) {
            for (Plain.Rule r : a.rules) {
                if (c.letter() == call && r.letter() == back && c.symbol() == r.symbol()
                        && (between >> 3 * c.to() + r.from() & 1) != 0) {
                    pairs |= 1 << 3 * c.from() + r.to();
                }
            }
        }
        return pairs;
    }

    // ---- words all of whose CALLS and RETURNS have PARTNERS

    private void findWell() {
        List<Integer> none = new ArrayList<>();
        for (Plain.Auto a : autos) {
            none.add(same(a));
        }
        boolean changed = offer(well, none, "");
        while (changed && isKnown()) {
            changed = false;
            Map<List<Integer>, String> blocks = blocks();
            for (Map.Entry<List<Integer>, String> w : List.copyOf(well.entrySet())) {
                for (Map.Entry<List<Integer>, String> b : blocks.entrySet()) {
                    List<Integer> both = new ArrayList<>();
                    for (int i = 0; i < autos.size(); i++) {
                        both.add(join(w.getKey().get(i), b.getKey().get(i)));
                    }
                    changed |= offer(well, both, w.getValue() + b.getValue());
                }
            }
        }
    }

    private Map<List<Integer>, String> blocks() {
        Map<List<Integer>, String> blocks = new HashMap<>();
        for (int l = plain.calls + plain.returns; l < plain.letters(); l++) {
            List<Integer> pairs = new ArrayList<>();
            for (Plain.Auto a : autos) {
                pairs.add(by(a, l));
            }
            offer(blocks, pairs, "" + l);
        }
        for (int c = 0; c < plain.calls; c++) {
            for (int r = plain.calls; r < plain.calls + plain.returns; r++) {
                for (Map.Entry<List<Integer>, String> w : well.entrySet()) {
                    List<Integer> pairs = new ArrayList<>();
                    for (int i = 0; i < autos.size(); i++) {
                        pairs.add(over(autos.get(i), c, r, w.getKey().get(i)));
                    }
                    offer(blocks, pairs, c + w.getValue() + r);
                }
            }
        }
        return blocks;
    }

    private static boolean offer(Map<List<Integer>, String> all, List<Integer> deed, String word) {
        String old = all.get(deed);
        if (old != null && !isAhead(word, old)) {
            return false;
        }
        all.put(deed, word);
        return true;
    }

    private static boolean isAhead(String word, String other) {
        return word.length() < other.length() || word.length() == other.length() && word.compareTo(other) < 0;
    }

    // ---- all words: whether a CALL is PENDING, and the set of STATES of each AUTOMATON

    private void findEnds() {
        List<Integer> first = new ArrayList<>(List.of(0));
        for (Plain.Auto a : autos) {
            first.add(a.starts);
        }
        boolean changed = offer(ends, first, "");
        while (changed) {
            changed = false;
            for (Map.Entry<List<Integer>, String> e : List.copyOf(ends.entrySet())) {
                for (Map.Entry<List<Integer>, String> w : well.entrySet()) {
                    List<Integer> then = new ArrayList<>(List.of(e.getKey().get(0)));
                    for (int i = 0; i < autos.size(); i++) {
                        then.add(lead(e.getKey().get(i + 1), w.getKey().get(i)));
                    }
                    changed |= offer(ends, then, e.getValue() + w.getValue());
                }
                for (int l = 0; l < plain.calls + (e.getKey().get(0) == 0 ? plain.returns : 0); l++) {
                    List<Integer> then = new ArrayList<>(List.of(plain.isCall(l) ? 1 : 0));
                    for (int i = 0; i < autos.size(); i++) {
                        then.add(lead(e.getKey().get(i + 1), by(autos.get(i), l)));
                    }
                    changed |= offer(ends, then, e.getValue() + l);
                }
            }
        }
    }

    // ---- what is asked for

    interface Sort {
        boolean has(List<Integer> setsOfStates);
    }

    /** The word as a text of digits, or null if there is none. */
    String shortest(Sort sort) {
        String best = null;
        for (Map.Entry<List<Integer>, String> e : ends.entrySet()) {
            List<Integer> sets = e.getKey().subList(1, e.getKey().size());
            if (sort.has(sets) && (best == null || isAhead(e.getValue(), best))) {
                best = e.getValue();
            }
        }
        return best;
    }

    int wellLength(int from, int to) {
        int least = Plain.NONE;
        for (Map.Entry<List<Integer>, String> w : well.entrySet()) {
            int length = w.getValue().length();
            if ((w.getKey().get(0) >> 3 * from + to & 1) != 0 && (least == Plain.NONE || length < least)) {
                least = length;
            }
        }
        return least;
    }

    int reaches() {
        int set = 0;
        for (List<Integer> e : ends.keySet()) {
            set |= e.get(1);
        }
        return set;
    }

    /** Whether no word makes R have an ACCEPT, with such SUMMARIES (R and S) and CALLS below. */
    boolean isLost(int r, int s, List<int[]> below) {
        Set<List<Integer>> now = new HashSet<>(Set.of(List.of(r, s)));
        for (int d = below.size(); d >= 0; d--) {
            Set<List<Integer>> then = grown(now, d == 0);
            for (List<Integer> rs : then) {
                if (isSaved(rs.get(0))) {
                    return false;
                }
            }
            now = new HashSet<>();
            for (int back = plain.calls; d > 0 && back < plain.calls + plain.returns; back++) {
                int[] under = below.get(d - 1);
                for (List<Integer> rs : then) {
                    int over = over(autos.get(0), under[2], back, rs.get(1));
                    now.add(List.of(lead(under[0], over), join(under[1], over)));
                }
            }
        }
        return true;
    }

    // Nothing below is touched; with nothing below, RETURNS go by EMPTY RULES.
    private Set<List<Integer>> grown(Set<List<Integer>> from, boolean nothingBelow) {
        Set<List<Integer>> all = new HashSet<>(from);
        List<List<Integer>> open = new ArrayList<>(from);
        for (int i = 0; i < open.size(); i++) {
            List<Integer> pairs = new ArrayList<>();
            well.keySet().forEach(w -> pairs.add(w.get(0)));
            for (int l = plain.calls; nothingBelow && l < plain.calls + plain.returns; l++) {
                pairs.add(by(autos.get(0), l));
            }
            for (int p : pairs) {
                List<Integer> then = List.of(lead(open.get(i).get(0), p), join(open.get(i).get(1), p));
                if (all.add(then)) {
                    open.add(then);
                }
            }
        }
        return all;
    }

    // Now, or with more CALLS that stay PENDING.
    private boolean isSaved(int r) {
        Set<Integer> all = new HashSet<>(Set.of(r));
        List<Integer> open = new ArrayList<>(all);
        for (int i = 0; i < open.size(); i++) {
            if ((open.get(i) & autos.get(0).accepts) != 0) {
                return true;
            }
            for (List<Integer> w : well.keySet()) {
                for (int c = 0; c < plain.calls; c++) {
                    int then = lead(lead(open.get(i), by(autos.get(0), c)), w.get(0));
                    if (all.add(then)) {
                        open.add(then);
                    }
                }
            }
        }
        return false;
    }
}

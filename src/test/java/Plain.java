import java.util.ArrayList;
import java.util.HashMap;
import java.util.HashSet;
import java.util.List;
import java.util.Map;
import java.util.Set;

/**
 * The document's terms in their plainest form, as slow as they are: RUNS are followed one by one
 * with their STACKS as texts, words are tried one after the other.
 */
final class Plain {
    static final int NONE = -1;

    record Rule(int letter, int from, int to, int symbol) {
    }

    record Place(int state, String stack) {
    }

    static final class Auto {
        int states = 1;
        int symbols = 1;
        int starts;
        int accepts;
        final List<Rule> rules = new ArrayList<>();

        Auto copy() {
            Auto a = new Auto();
            a.states = states;
            a.symbols = symbols;
            a.starts = starts;
            a.accepts = accepts;
            a.rules.addAll(rules);
            return a;
        }
    }

    record Summary(int r, Set<List<Integer>> s) {
        int pairs() {
            int bits = 0;
            for (List<Integer> pq : s) {
                bits += 1 << 3 * pq.get(0) + pq.get(1);
            }
            return bits;
        }
    }

    int calls;
    int returns;
    int inners;
    final List<Auto> autos = new ArrayList<>();

    int letters() {
        return calls + returns + inners;
    }

    boolean isCall(int l) {
        return l < calls;
    }

    boolean isReturn(int l) {
        return l >= calls && l < calls + returns;
    }

    // ---- RUNS

    Map<Place, Long> begin(Auto a) {
        Map<Place, Long> now = new HashMap<>();
        for (int q = 0; q < a.states; q++) {
            if ((a.starts >> q & 1) != 0) {
                now.put(new Place(q, ""), 1L);
            }
        }
        return now;
    }

    Map<Place, Long> go(Auto a, Map<Place, Long> now, int letter) {
        Map<Place, Long> then = new HashMap<>();
        for (Map.Entry<Place, Long> e : now.entrySet()) {
            for (Rule rule : a.rules) {
                if (rule.letter != letter || rule.from != e.getKey().state) {
                    continue;
                }
                String stack = e.getKey().stack;
                if (isCall(letter)) {
                    stack = stack + rule.symbol;
                } else if (isReturn(letter) && rule.symbol == NONE) {
                    if (!stack.isEmpty()) {
                        continue;
                    }
                } else if (isReturn(letter)) {
                    if (!stack.endsWith("" + rule.symbol)) {
                        continue;
                    }
                    stack = stack.substring(0, stack.length() - 1);
                }
                then.merge(new Place(rule.to, stack), e.getValue(), Long::sum);
            }
        }
        return then;
    }

    Map<Place, Long> follow(Auto a, int[] word) {
        Map<Place, Long> now = begin(a);
        for (int l : word) {
            now = go(a, now, l);
        }
        return now;
    }

    static int ends(Map<Place, Long> now) {
        int set = 0;
        for (Place p : now.keySet()) {
            set |= 1 << p.state;
        }
        return set;
    }

    static long runs(Auto a, Map<Place, Long> now) {
        long sum = 0;
        for (Map.Entry<Place, Long> e : now.entrySet()) {
            sum += (a.accepts >> e.getKey().state & 1) != 0 ? e.getValue() : 0;
        }
        return sum;
    }

    boolean takes(Auto a, int[] word) {
        return (ends(follow(a, word)) & a.accepts) != 0;
    }

    // ---- PARTNERS, by the words of the document: what is between them

    int partner(int[] word, int k) {
        for (int i = 0; i < word.length; i++) {
            int first = Math.min(i, k);
            int second = Math.max(i, k);
            if (first != second && isCall(word[first]) && isReturn(word[second])
                    && isEven(word, first + 1, second)) {
                return i;
            }
        }
        return NONE;
    }

    private boolean isEven(int[] word, int from, int to) {
        int open = 0;
        for (int i = from; i < to; i++) {
            open += isCall(word[i]) ? 1 : isReturn(word[i]) ? -1 : 0;
            if (open < 0) {
                return false;
            }
        }
        return open == 0;
    }

    int pending(int[] word) {
        int n = 0;
        for (int i = 0; i < word.length; i++) {
            n += isCall(word[i]) && partner(word, i) == NONE ? 1 : 0;
        }
        return n;
    }

    int loose(int[] word) {
        int n = 0;
        for (int i = 0; i < word.length; i++) {
            n += isReturn(word[i]) && partner(word, i) == NONE ? 1 : 0;
        }
        return n;
    }

    int deepest(int[] word) {
        int most = 0;
        for (int at = 0; at < word.length; at++) {
            int around = 0;
            for (int i = 0; i <= at; i++) {
                int p = partner(word, i);
                around += isCall(word[i]) && (p == NONE || p > at) ? 1 : 0;
            }
            most = Math.max(most, around);
        }
        return most;
    }

    // ---- SUMMARIES and the TABLE

    Summary first(Auto a) {
        return new Summary(a.starts, same(a));
    }

    private static Set<List<Integer>> same(Auto a) {
        Set<List<Integer>> s = new HashSet<>();
        for (int q = 0; q < a.states; q++) {
            s.add(List.of(q, q));
        }
        return s;
    }

    Summary by(Auto a, Summary x, int letter) {
        int r = 0;
        Set<List<Integer>> s = isCall(letter) ? same(a) : new HashSet<>();
        for (Rule rule : a.rules) {
            if (rule.letter != letter || isReturn(letter) && rule.symbol != NONE) {
                continue;
            }
            if ((x.r >> rule.from & 1) != 0) {
                r |= 1 << rule.to;
            }
            for (int p = 0; p < 3; p++) {
                if (!isCall(letter) && x.s.contains(List.of(p, rule.from))) {
                    s.add(List.of(p, rule.to));
                }
            }
        }
        return new Summary(r, s);
    }

    Summary back(Auto a, Summary x, int letter, Summary below, int call) {
        Set<List<Integer>> over = new HashSet<>();
        for (Rule c : a.rules) {
            for (Rule b : a.rules) {
                if (c.letter == call && b.letter == letter && c.symbol == b.symbol
                        && x.s.contains(List.of(c.to, b.from))) {
                    over.add(List.of(c.from, b.to));
                }
            }
        }
        int r = 0;
        Set<List<Integer>> s = new HashSet<>();
        for (List<Integer> o : over) {
            if ((below.r >> o.get(0) & 1) != 0) {
                r |= 1 << o.get(1);
            }
            for (int p = 0; p < 3; p++) {
                if (below.s.contains(List.of(p, o.get(0)))) {
                    s.add(List.of(p, o.get(1)));
                }
            }
        }
        return new Summary(r, s);
    }

    /** The TABLE, or null if it can't be. */
    List<Summary> table(Auto a) {
        List<Summary> t = new ArrayList<>();
        t.add(first(a));
        for (int k = 0; k < t.size(); k++) {
            for (int l = 0; l < letters(); l++) {
                put(t, by(a, t.get(k), l));
            }
            for (int j = 0; j <= k; j++) {
                for (int c = 0; c < calls; c++) {
                    for (int r = calls; r < calls + returns; r++) {
                        put(t, back(a, t.get(k), r, t.get(j), c));
                        if (j < k) {
                            put(t, back(a, t.get(j), r, t.get(k), c));
                        }
                    }
                }
                if (t.size() > 40) {
                    return null;
                }
            }
        }
        return t.size() > 40 ? null : t;
    }

    private static void put(List<Summary> t, Summary x) {
        if (!t.contains(x)) {
            t.add(x);
        }
    }

    // ---- words one after the other

    static int[] word(int code, int letters, int n) {
        int[] w = new int[n];
        int rest = code;
        for (int i = n - 1; i >= 0; i--) {
            w[i] = rest % letters;
            rest /= letters;
        }
        return w;
    }

    interface Sort {
        boolean has(int[] word);
    }

    /** The first of the shortest words of a sort with at most so many LETTERS, or null. */
    int[] shortest(Sort sort, int most) {
        for (int n = 0; n <= most; n++) {
            long many = Math.round(Math.pow(letters(), n));
            for (int code = 0; code < many; code++) {
                int[] w = word(code, letters(), n);
                if (sort.has(w)) {
                    return w;
                }
            }
        }
        return null;
    }

    // ---- WELL: words whose CALLS and RETURNS all have PARTNERS, tried one after the other

    int well(Auto a, int from, int to, int most) {
        Auto b = a.copy();
        b.starts = 1 << from;
        b.accepts = 1 << to;
        int[] w = shortest(x -> pending(x) == 0 && loose(x) == 0 && takes(b, x), most);
        return w == null ? NONE : w.length;
    }

    // ---- where single RUNS can come to, the STACK no higher than some bound

    int reachable(Auto a, Set<Place> from, int highest) {
        Set<Place> all = new HashSet<>(from);
        List<Place> open = new ArrayList<>(from);
        int set = 0;
        for (int i = 0; i < open.size(); i++) {
            set |= 1 << open.get(i).state;
            Map<Place, Long> one = Map.of(open.get(i), 1L);
            for (int l = 0; l < letters(); l++) {
                for (Place p : go(a, one, l).keySet()) {
                    if (p.stack.length() <= highest && all.add(p)) {
                        open.add(p);
                    }
                }
            }
        }
        return set;
    }

    // ---- the text

    static final String[] NAMES = {"c", "d", "r", "s", "i", "j"};

    String name(int letter) {
        if (isCall(letter)) {
            return NAMES[letter];
        }
        return isReturn(letter) ? NAMES[2 + letter - calls] : NAMES[4 + letter - calls - returns];
    }

    String text() {
        StringBuilder t = new StringBuilder();
        for (int l = 0; l < letters(); l++) {
            t.append(isCall(l) ? "call " : isReturn(l) ? "ret " : "inner ").append(name(l)).append(";");
        }
        for (Auto a : autos) {
            t.append("automaton ").append(a.states).append(" symbols ").append(a.symbols).append(";");
            t.append(states("start", a.starts)).append(states("accept", a.accepts));
            for (Rule rule : a.rules) {
                t.append("rule ").append(name(rule.letter)).append(' ').append(rule.from).append(' ').append(rule.to);
                if (isCall(rule.letter)) {
                    t.append(" push ").append(rule.symbol);
                } else if (isReturn(rule.letter)) {
                    t.append(rule.symbol == NONE ? " empty" : " pop " + rule.symbol);
                }
                t.append(";");
            }
        }
        return t.toString();
    }

    private static String states(String what, int set) {
        StringBuilder t = new StringBuilder(what);
        for (int q = 0; q < 3; q++) {
            if ((set >> q & 1) != 0) {
                t.append(' ').append(q);
            }
        }
        return t.append(';').toString();
    }
}

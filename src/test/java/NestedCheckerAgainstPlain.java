import java.util.ArrayList;
import java.util.Arrays;
import java.util.HashSet;
import java.util.List;
import java.util.Map;
import java.util.Random;
import java.util.Set;

/** Checkers drawn with fixed seeds, every question asked of the class and of the plain terms. */
public final class NestedCheckerAgainstPlain {
    private static final Random draw = new Random(20261118L);

    // Told one CHECKER after the other: nothing may be left of those ahead.
    private static NestedChecker used = new NestedChecker();

    public static void main(String[] args) {
        int many = args.length > 0 ? Integer.parseInt(args[0]) : 400;
        for (int i = 0; i < many; i++) {
            Plain plain = drawChecker();
            NestedChecker x = new NestedChecker();
            String at = "checker " + i + " " + plain.text() + " ";
            Due.fine(x, at + "checker", Due.tell(x, plain.text()), plain.autos.size());
            askParts(at, x, plain);
            for (int a = 0; a < plain.autos.size(); a++) {
                askTable(at, new NestedChecker(), plain, a);
                askShortest(at, x, plain, a);
                askCounts(at, x, plain, a);
            }
            askTwo(at, x, plain);
            askWords(at, x, plain);
            askMonitor(at, x, plain);
            askMonitorWhileRulesChange(at, plain);
            askChanges(at, plain);
            askUsed(at, plain, i);
        }
        for (int i = 0; i < 2 * many; i++) {
            askTableOfTwoByTwo(i);
        }
        Due.end("NestedCheckerAgainstPlain");
    }

    // Two CALLS and two RETURNS: many ways to go back, each by its own.
    private static void askTableOfTwoByTwo(int turn) {
        Plain plain = new Plain();
        plain.calls = 2;
        plain.returns = 2;
        plain.inners = draw.nextInt(2);
        plain.autos.add(drawAutomaton(plain, 4 + draw.nextInt(7)));
        askTable("two by two " + turn + " " + plain.text() + " ", new NestedChecker(), plain, 0);
    }

    // ---- drawing

    static Plain drawChecker() {
        Plain plain = new Plain();
        plain.calls = draw.nextInt(3);
        plain.returns = draw.nextInt(3);
        plain.inners = draw.nextInt(3);
        if (draw.nextInt(2) == 0) {
            plain.calls = 1;
            plain.returns = 1;
            plain.inners = draw.nextInt(2);
        }
        int most = draw.nextInt(6) == 0 ? 1 : 2;
        int wide = draw.nextInt(4) == 0 ? 20 : 3 + draw.nextInt(10);
        for (int i = 0; i < most; i++) {
            plain.autos.add(drawAutomaton(plain, wide));
        }
        while (plain.text().length() > 900) {
            for (Plain.Auto a : plain.autos) {
                if (!a.rules.isEmpty()) {
                    a.rules.remove(a.rules.size() - 1);
                }
            }
        }
        return plain;
    }

    private static Plain.Auto drawAutomaton(Plain plain, int rules) {
        Plain.Auto a = new Plain.Auto();
        a.states = 1 + draw.nextInt(3);
        a.symbols = 1 + draw.nextInt(3);
        a.starts = draw.nextInt(4) == 0 ? draw.nextInt(1 << a.states) : 1 << draw.nextInt(a.states);
        a.accepts = draw.nextInt(4) == 0 ? draw.nextInt(1 << a.states) : 1 << draw.nextInt(a.states);
        for (int i = 0; i < rules && plain.letters() > 0; i++) {
            Plain.Rule rule = drawRule(plain, a);
            if (!a.rules.contains(rule)) {
                a.rules.add(rule);
            }
        }
        return a;
    }

    private static Plain.Rule drawRule(Plain plain, Plain.Auto a) {
        int letter = draw.nextInt(plain.letters());
        int symbol = -1;
        if (plain.isCall(letter) || plain.isReturn(letter) && draw.nextInt(4) != 0) {
            symbol = draw.nextInt(a.symbols);
        }
        return new Plain.Rule(letter, draw.nextInt(a.states), draw.nextInt(a.states), symbol);
    }

    private static int longest(Plain plain) {
        switch (plain.letters()) {
            case 0:
            case 1:
            case 2:
                return 9;
            case 3:
                return 7;
            case 4:
                return 5;
            default:
                return 4;
        }
    }

    // ---- asking

    private static void askParts(String at, NestedChecker x, Plain plain) {
        Due.is(at + "calls", x.told(0), plain.calls);
        Due.is(at + "returns", x.told(1), plain.returns);
        Due.is(at + "inners", x.told(2), plain.inners);
        for (int a = 0; a < plain.autos.size(); a++) {
            Plain.Auto p = plain.autos.get(a);
            Due.is(at + "states", x.automaton(a, 0), p.states);
            Due.is(at + "symbols", x.automaton(a, 1), p.symbols);
            Due.is(at + "starts", x.automaton(a, 2), p.starts);
            Due.is(at + "accepts", x.automaton(a, 3), p.accepts);
            Due.is(at + "rules", x.automaton(a, 4), p.rules.size());
            for (int k = 0; k < p.rules.size(); k++) {
                Plain.Rule rule = p.rules.get(k);
                Due.is(at + "letter", x.rule(a, k, 0), rule.letter());
                Due.is(at + "from", x.rule(a, k, 1), rule.from());
                Due.is(at + "to", x.rule(a, k, 2), rule.to());
                Due.is(at + "symbol", x.rule(a, k, 3), rule.symbol());
                Due.is(at + "symbol STATUS", x.status(), rule.symbol() == -1 ? 6 : 0);
            }
        }
    }

    private static void askTable(String at, NestedChecker x, Plain plain, int a) {
        Due.tell(x, plain.text());
        Plain.Auto p = plain.autos.get(a);
        List<Plain.Summary> t = plain.table(p);
        if (t == null) {
            Due.refused(x, at + "table", x.table(a), 7);
            Due.refused(x, at + "summary", x.summary(a, -1, 0), 7);
            Due.refused(x, at + "missing", x.missing(a), 7);
            return;
        }
        Due.fine(x, at + "table", x.table(a), t.size());
        for (int k = 0; k < t.size(); k++) {
            Due.is(at + "summary R " + k, x.summary(a, k, 0), t.get(k).r());
            Due.is(at + "summary S " + k, x.summary(a, k, 1), t.get(k).pairs());
            Due.is(at + "summary accept " + k, x.summary(a, k, 2), (t.get(k).r() & p.accepts) != 0 ? 1 : 0);
        }
        for (int i = 0; i < 40 && plain.letters() > 0; i++) {
            int k = draw.nextInt(t.size());
            int j = draw.nextInt(t.size());
            int l = draw.nextInt(plain.letters());
            Due.is(at + "next " + k + " " + l, x.next(a, k, l), t.indexOf(plain.by(p, t.get(k), l)));
            int c = draw.nextInt(plain.letters());
            if (plain.isReturn(l) && plain.isCall(c)) {
                Due.is(at + "nextBack", x.nextBack(a, k, l, j, c), t.indexOf(plain.back(p, t.get(k), l, t.get(j), c)));
            } else {
                Due.refused(x, at + "nextBack", x.nextBack(a, k, l, j, c), 1);
            }
        }
    }

    private interface At {
        int letter(int k);
    }

    // A word that is longer than those tried must have more LETTERS than these.
    private static void sameWord(String at, NestedChecker x, int got, At letters, int[] want, int most) {
        if (want == null) {
            Due.is(at + " (" + got + ") has more than " + most, got == -1 || got > most, true);
            if (got > 6) {
                Due.refused(x, at + "At 0", letters.letter(0), 7);
            }
            Due.refused(x, at + "At behind", letters.letter(Math.max(got, 0)), 6);
            return;
        }
        Due.is(at, got, want.length);
        for (int k = 0; k < want.length; k++) {
            if (want.length <= 6) {
                Due.fine(x, at + "At " + k, letters.letter(k), want[k]);
            } else {
                Due.refused(x, at + "At " + k, letters.letter(k), 7);
            }
        }
        Due.refused(x, at + "At behind", letters.letter(want.length), 6);
    }

    private static void askShortest(String at, NestedChecker x, Plain plain, int a) {
        Plain.Auto p = plain.autos.get(a);
        int most = longest(plain);
        sameWord(at + "shortest", x, x.shortest(a), k -> x.shortestAt(a, k), plain.shortest(w -> plain.takes(p, w), most), most);
        if (plain.table(p) != null) {
            sameWord(at + "missing", x, x.missing(a), k -> x.missingAt(a, k), plain.shortest(w -> !plain.takes(p, w), most), most);
        }
        for (int i = 0; i < p.states; i++) {
            for (int j = 0; j < p.states; j++) {
                int want = plain.well(p, i, j, most);
                int got = x.well(a, i, j);
                Due.is(at + "well " + i + " " + j + " " + got, want == -1 ? got == -1 || got > most : got == want, true);
            }
        }
        Due.fine(x, at + "reaches", x.reaches(a), plain.reachable(p, plain.begin(p).keySet(), 5));
    }

    private static void askCounts(String at, NestedChecker x, Plain plain, int a) {
        Plain.Auto p = plain.autos.get(a);
        for (int n = 0; n <= Math.min(longest(plain), 6); n++) {
            int all = (int) Math.round(Math.pow(plain.letters(), n));
            int taken = 0;
            int[] last = null;
            for (int code = 0; code < all; code++) {
                int[] w = Plain.word(code, plain.letters(), n);
                if (plain.takes(p, w)) {
                    taken++;
                    last = w;
                }
            }
            Due.fine(x, at + "count " + n, x.count(a, n), taken);
            if (all == 0) {
                Due.denied(x, at + "share " + n, x.share(a, n), 6);
            } else {
                Due.fine(x, at + "share " + n, x.share(a, n));
                Due.is(at + "share " + n, x.top() * all, x.bottom() * taken);
            }
            for (int k = 0; k < n; k++) {
                Due.is(at + "lastAt " + n + " " + k, x.lastAt(a, n, k), last == null ? -1 : last[k]);
                Due.is(at + "lastAt STATUS", x.status(), last == null ? 6 : 0);
            }
        }
    }

    private static void askTwo(String at, NestedChecker x, Plain plain) {
        if (plain.autos.size() < 2) {
            Due.refused(x, at + "both", x.both(0, 1), 1);
            return;
        }
        int most = longest(plain);
        int[] none = {0, 0};
        for (int a = 0; a < 2; a++) {
            Plain.Auto p = plain.autos.get(a);
            Plain.Auto q = plain.autos.get(1 - a);
            int one = a;
            int other = 1 - a;
            sameWord(at + "both", x, x.both(one, other), k -> x.bothAt(one, other, k),
                    plain.shortest(w -> plain.takes(p, w) && plain.takes(q, w), most), most);
            if (plain.table(q) == null) {
                none[a] = 7;
                Due.refused(x, at + "parting", x.parting(one, other), 7);
                Due.refused(x, at + "partingAt", x.partingAt(one, other, 0), 7);
                Due.refused(x, at + "includes", x.includes(one, other), 7);
                Due.refused(x, at + "equal", x.equal(one, other), 7);
                continue;
            }
            int[] w = plain.shortest(v -> plain.takes(p, v) && !plain.takes(q, v), most);
            sameWord(at + "parting " + a, x, x.parting(one, other), k -> x.partingAt(one, other, k), w, most);
            none[a] = x.parting(one, other) == -1 ? 1 : 0;
            Due.fine(x, at + "includes", x.includes(one, other), none[a]);
        }
        if (none[0] != 7 && none[1] != 7) {
            Due.fine(x, at + "equal", x.equal(0, 1), none[0] * none[1]);
        }
    }

    private static void askWords(String at, NestedChecker x, Plain plain) {
        for (int i = 0; i < 8; i++) {
            int n = plain.letters() == 0 ? 0 : draw.nextInt(i < 4 ? 21 : 6);
            int seed = draw.nextInt(10000);
            x.tray(0, draw.nextInt(4), n + draw.nextInt(3));
            Due.fine(x, at + "sample", x.sample(0, n, seed));
            int[] word = new int[n];
            int s = seed;
            for (int k = 0; k < n; k++) {
                s = (s * 3287 + 11519) % 65536;
                word[k] = s / 8 % plain.letters();
                Due.is(at + "sample at " + k, x.read(0, k), word[k]);
            }
            Due.is(at + "pending", x.depth(0, n, 0), plain.pending(word));
            Due.is(at + "loose", x.depth(0, n, 1), plain.loose(word));
            Due.is(at + "deepest", x.depth(0, n, 2), plain.deepest(word));
            for (int k = 0; k < n; k++) {
                int want = plain.partner(word, k);
                Due.is(at + "partner", x.partner(0, n, k), want);
                Due.is(at + "partner STATUS", x.status(), want == -1 ? 6 : 0);
            }
            // The plain way follows every STACK there can be: not too high ones.
            for (int a = 0; a < plain.autos.size() && plain.deepest(word) <= 6; a++) {
                Plain.Auto p = plain.autos.get(a);
                Map<Plain.Place, Long> ends = plain.follow(p, word);
                Due.fine(x, at + "takes", x.takes(a, 0, n), plain.takes(p, word) ? 1 : 0);
                Due.fine(x, at + "ends", x.ends(a, 0, n), Plain.ends(ends));
                Due.fine(x, at + "runs", x.runs(a, 0, n));
                Due.fraction(x, at + "runs " + Arrays.toString(word), Plain.runs(p, ends), 1);
                Due.fine(x, at + "chance", x.chance(a, n, 1, seed));
                Due.fraction(x, at + "chance", plain.takes(p, word) ? 1 : 0, 1);
            }
        }
    }

    private static void askMonitor(String at, NestedChecker x, Plain plain) {
        int a = draw.nextInt(plain.autos.size());
        Plain.Auto p = plain.autos.get(a);
        Map<Plain.Place, Long> now = plain.begin(p);
        int[] word = new int[0];
        Due.fine(x, at + "watch", x.watch(a), plain.takes(p, word) ? 1 : 0);
        for (int i = 0; i < 6 && plain.letters() > 0; i++) {
            int highest = plain.pending(word) + 4;
            boolean lost = (plain.reachable(p, now.keySet(), highest) & p.accepts) == 0;
            Due.fine(x, at + "doomed " + Arrays.toString(word), x.doomed(), lost ? 1 : 0);
            Due.is(at + "seen 0", x.seen(0), a);
            Due.is(at + "seen 1", x.seen(1), i);
            Due.is(at + "seen 2", x.seen(2), plain.pending(word));
            Due.is(at + "seen 3", x.seen(3), Plain.ends(now));
            Due.is(at + "seen 4", x.seen(4), plain.takes(p, word) ? 1 : 0);
            int l = draw.nextInt(plain.letters());
            word = Arrays.copyOf(word, i + 1);
            word[i] = l;
            now = plain.go(p, now, l);
            Due.fine(x, at + "see", x.see(l), plain.takes(p, word) ? 1 : 0);
        }
    }

    // A STACK of SUMMARIES as they were, RULES as they are.
    private record Seen(Plain.Summary now, List<Plain.Summary> below, List<Integer> calls) {
        static Seen go(Plain plain, Plain.Auto a, Seen seen, int letter) {
            List<Plain.Summary> below = new ArrayList<>(seen.below);
            List<Integer> calls = new ArrayList<>(seen.calls);
            if (plain.isCall(letter)) {
                below.add(seen.now);
                calls.add(letter);
            } else if (plain.isReturn(letter) && !below.isEmpty()) {
                int last = below.size() - 1;
                return new Seen(plain.back(a, seen.now, letter, below.remove(last), calls.remove(last)), below, calls);
            }
            return new Seen(plain.by(a, seen.now, letter), below, calls);
        }
    }

    private static void askMonitorWhileRulesChange(String at, Plain plain) {
        NestedChecker x = new NestedChecker();
        Due.tell(x, plain.text());
        Plain changed = copyOf(plain);
        int a = draw.nextInt(plain.autos.size());
        Seen seen = new Seen(plain.first(plain.autos.get(a)), List.of(), List.of());
        x.watch(a);
        for (int i = 0; i < 8 && plain.letters() > 0; i++) {
            if (draw.nextInt(2) == 0) {
                change(x, changed);
            }
            Plain.Auto p = changed.autos.get(a);
            askLost(at, x, changed, p, seen);
            int l = draw.nextInt(plain.letters());
            seen = Seen.go(changed, p, seen, l);
            Due.fine(x, at + "see in change", x.see(l), (seen.now.r() & p.accepts) != 0 ? 1 : 0);
            Due.is(at + "seen 2 in change", x.seen(2), seen.below.size());
            Due.is(at + "seen 3 in change", x.seen(3), seen.now.r());
        }
    }

    // All that can be seen yet, as long as it isn't too much.
    private static void askLost(String at, NestedChecker x, Plain plain, Plain.Auto p, Seen seen) {
        Set<Seen> all = new HashSet<>(Set.of(seen));
        List<Seen> open = new ArrayList<>(all);
        boolean lost = true;
        for (int i = 0; i < open.size() && lost && all.size() < 300; i++) {
            lost = (open.get(i).now.r() & p.accepts) == 0;
            for (int l = 0; l < plain.letters(); l++) {
                Seen next = Seen.go(plain, p, open.get(i), l);
                if (next.below.size() <= seen.below.size() + 3 && all.add(next)) {
                    open.add(next);
                }
            }
        }
        if (!lost || all.size() < 300) {
            Due.fine(x, at + "doomed in change", x.doomed(), lost ? 1 : 0);
        }
    }

    private static Plain copyOf(Plain plain) {
        Plain copy = new Plain();
        copy.calls = plain.calls;
        copy.returns = plain.returns;
        copy.inners = plain.inners;
        for (Plain.Auto a : plain.autos) {
            copy.autos.add(a.copy());
        }
        return copy;
    }

    // The answers after changes must be those of a new object that is told the changed CHECKER.
    private static void askChanges(String at, Plain plain) {
        NestedChecker x = new NestedChecker();
        Due.tell(x, plain.text());
        askAll(x, plain.autos.size());
        x.mark();
        Plain changed = copyOf(plain);
        for (int i = 0; i < 4; i++) {
            change(x, changed);
            NestedChecker fresh = new NestedChecker();
            if (changed.text().length() > 900) {
                continue;
            }
            Due.tell(fresh, changed.text());
            Due.is(at + "after changes", askAll(x, plain.autos.size()), askAll(fresh, plain.autos.size()));
        }
        Due.fine(x, at + "undo", x.undo(), 0);
        NestedChecker fresh = new NestedChecker();
        Due.tell(fresh, plain.text());
        Due.is(at + "after undo", askAll(x, plain.autos.size()), askAll(fresh, plain.autos.size()));
        changed = copyOf(plain);
        for (int i = 0; i < 3; i++) {
            change(x, changed);
        }
        fresh = new NestedChecker();
        if (changed.text().length() <= 900) {
            Due.tell(fresh, changed.text());
            Due.is(at + "changed after undo", askAll(x, plain.autos.size()), askAll(fresh, plain.autos.size()));
        }
    }

    private static void askUsed(String at, Plain plain, int turn) {
        if (turn % 4 == 0) {
            used = new NestedChecker();
        }
        if (turn % 4 == 2) {
            used.mark();
        }
        NestedChecker fresh = new NestedChecker();
        Due.tell(fresh, plain.text());
        Due.is(at + "told to a used one", Due.tell(used, plain.text()), plain.autos.size());
        Due.is(at + "of a used one", askAll(used, plain.autos.size()), askAll(fresh, plain.autos.size()));
        Due.refused(used, at + "watched by a used one", used.seen(0), 6);
        used.watch(0);
    }

    private static void change(NestedChecker x, Plain changed) {
        int a = draw.nextInt(changed.autos.size());
        Plain.Auto p = changed.autos.get(a);
        int what = draw.nextInt(5);
        if (what == 0 && changed.letters() > 0) {
            Plain.Rule rule = drawRule(changed, p);
            if (p.rules.size() < 20 && !p.rules.contains(rule)) {
                p.rules.add(rule);
            }
            x.add(a, rule.letter(), rule.from(), rule.to(), rule.symbol());
        } else if (what == 1 && !p.rules.isEmpty()) {
            int k = draw.nextInt(p.rules.size());
            p.rules.remove(k);
            Due.fine(x, "drop", x.drop(a, k), p.rules.size());
        } else if (what == 2) {
            int q = draw.nextInt(p.states);
            p.starts ^= 1 << q;
            Due.fine(x, "start", x.start(a, q, (p.starts >> q & 1) != 0), p.starts);
        } else if (what == 3) {
            int q = draw.nextInt(p.states);
            p.accepts ^= 1 << q;
            Due.fine(x, "accept", x.accept(a, q, (p.accepts >> q & 1) != 0), p.accepts);
        } else if (changed.autos.size() == 2) {
            changed.autos.set(1 - a, p.copy());
            Due.fine(x, "copy", x.copy(a, 1 - a));
        }
    }

    private static long askAll(NestedChecker x, int automata) {
        long sum = 0;
        for (int a = 0; a < automata; a++) {
            int[] answers = {x.automaton(a, 0), x.automaton(a, 1), x.automaton(a, 2), x.automaton(a, 3),
                x.automaton(a, 4), x.table(a), x.summary(a, 1, 1), x.next(a, 0, 0), x.shortest(a), x.shortestAt(a, 1),
                x.both(a, 1 - a), x.bothAt(a, 1 - a, 0), x.parting(a, 1 - a), x.partingAt(a, 1 - a, 1), x.missing(a),
                x.missingAt(a, 0), x.equal(a, 1 - a), x.count(a, 3), x.reaches(a), x.well(a, 0, 0), x.lastAt(a, 3, 0)};
            for (int v : answers) {
                sum = sum * 31 + v;
            }
        }
        return sum;
    }
}

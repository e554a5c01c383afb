import java.util.ArrayList;
import java.util.List;

/**
 * Two objects made alike, a call asked of one of them: its answer, its STATUS, and all that can be
 * seen of both from then on, TRAYS, tape, CHECKER, MONITOR, MARKS, FRACTION and FAULT.
 */
final class Twins {
    interface Recipe {
        NestedChecker make();
    }

    interface Call {
        long of(NestedChecker x);
    }

    interface CallBy {
        long of(NestedChecker x, int v);
    }

    static final int MIN = Integer.MIN_VALUE;
    static final int MAX = Integer.MAX_VALUE;

    /** A call that answers a boolean: false stands as NONE, which is what a refused one gives. */
    static long is(boolean answer) {
        return answer ? 1 : NestedChecker.NONE;
    }

    /** The call is refused with such a STATUS, and nothing else has changed. */
    static void refused(String what, Recipe recipe, Call call, int status) {
        NestedChecker x = recipe.make();
        Due.is(what, call.of(x), NestedChecker.NONE);
        Due.is(what + " STATUS", x.status(), status);
        same(what + " changes nothing else", ledger(x), ledger(recipe.make()));
    }

    /** The call answers so, and nothing else has changed. */
    static void asked(String what, Recipe recipe, Call call, long answer) {
        NestedChecker x = recipe.make();
        Due.is(what, call.of(x), answer);
        Due.is(what + " STATUS", x.status(), 0);
        same(what + " changes nothing", ledger(x), ledger(recipe.make()));
    }

    /** The call is not refused, whatever it answers. */
    static void taken(String what, Recipe recipe, Call call) {
        NestedChecker x = recipe.make();
        call.of(x);
        Due.is(what + " STATUS", x.status(), 0);
    }

    /** An argument from the least to the most is taken; just outside, and far, it is refused. */
    static void limits(String what, Recipe recipe, CallBy call, int least, int most, int status) {
        taken(what + " " + least, recipe, x -> call.of(x, least));
        taken(what + " " + most, recipe, x -> call.of(x, most));
        refused(what + " " + (least - 1), recipe, x -> call.of(x, least - 1), status);
        refused(what + " " + (most + 1), recipe, x -> call.of(x, most + 1), status);
        refused(what + " far below", recipe, x -> call.of(x, MIN), status);
        refused(what + " far above", recipe, x -> call.of(x, MAX), status);
    }

    static void same(String what, List<Long> got, List<Long> want) {
        int at = 0;
        while (at < got.size() && at < want.size() && got.get(at).equals(want.get(at))) {
            at++;
        }
        Due.is(what + " (entry " + at + " of " + want.size() + ")", got.equals(want), true);
    }

    // ---- all that can be seen

    /** Takes the object along: it is undone and told another text. Some 350 calls at most. */
    static List<Long> ledger(NestedChecker x) {
        List<Long> all = new ArrayList<>();
        noteFraction(all, x);
        noteFault(all, x);
        noteTrays(all, x);
        noteChecker(all, x);
        noteMonitor(all, x);
        int left = x.undo();
        for (int i = 0; i < 4 && left >= 0; i++) {
            all.add((long) left);
            noteChecker(all, x);
            noteMonitor(all, x);
            left = x.undo();
        }
        noteTape(all, x);
        return all;
    }

    static void noteFraction(List<Long> all, NestedChecker x) {
        all.add(x.top());
        all.add(x.bottom());
    }

    static void noteFault(List<Long> all, NestedChecker x) {
        all.add((long) x.fault(0));
        all.add((long) x.fault(1));
    }

    // Up to the first place that the TRAY has not; then its sort, by what a number is cut to.
    static void noteTrays(List<Long> all, NestedChecker x) {
        for (int t = 0; t < 4; t++) {
            int n = 0;
            do {
                all.add(x.read(t, n));
                n++;
            } while (x.status() == 0 && n <= 60);
            all.add((long) x.status());
            if (n > 1) {
                x.write(t, 0, 0x1122334455667788L);
                all.add(x.read(t, 0));
            }
        }
    }

    static void noteChecker(List<Long> all, NestedChecker x) {
        for (int what = 0; what < 4; what++) {
            all.add((long) x.told(what));
        }
        int automata = x.told(3);
        for (int a = 0; a < automata; a++) {
            for (int what = 0; what < 5; what++) {
                all.add((long) x.automaton(a, what));
            }
            int rules = x.automaton(a, 4);
            for (int k = 0; k < rules; k++) {
                all.add(x.rule(a, k, 0) * 1000L + x.rule(a, k, 1) * 100 + x.rule(a, k, 2) * 10 + x.rule(a, k, 3));
            }
        }
    }

    // What is below is seen by RETURNS, the first of which is numbered behind the CALLS.
    static void noteMonitor(List<Long> all, NestedChecker x) {
        for (int what = 0; what < 5; what++) {
            all.add((long) x.seen(what));
        }
        all.add((long) x.doomed());
        int pending = x.seen(2);
        for (int i = 0; i < pending && i < 4; i++) {
            all.add((long) x.see(x.told(0)));
            all.add((long) x.seen(3));
        }
    }

    static void noteTape(List<Long> all, NestedChecker x) {
        int many = x.feed(0x20202020, 0x20202020, 0x20202020, 0x20202020, 0x20202020);
        all.add((long) many);
        all.add((long) x.checker(many < 0 ? 900 : many));
        noteFault(all, x);
        noteChecker(all, x);
    }
}

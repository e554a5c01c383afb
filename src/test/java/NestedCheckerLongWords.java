/**
 * AUTOMATA whose SHORTEST words are long, or are found late: by many sets of STATES, by many words of
 * unlike lengths. All lengths as Deeds tells them; those of which each text is made are written out.
 */
public final class NestedCheckerLongWords {
    private static final String[] TEXTS = {
        "call c;ret r;ret s;"
                + "automaton 3 symbols 3;start 2;accept 2;rule s 2 1 pop 2;rule s 0 1 pop 2;rule c 0 2 push 2;"
                + "rule c 2 0 push 0;rule s 1 2 pop 1;rule r 0 0 pop 1;rule c 1 0 push 1;rule s 2 0 pop 0;"
                + "rule c 1 1 push 0;rule r 1 2 empty;rule s 1 2 empty;"
                + "automaton 3 symbols 3;start 2;accept 1;rule s 0 1 pop 1;rule c 2 2 push 0;rule r 2 0 pop 0;"
                + "rule c 0 2 push 1;rule s 2 2 pop 0;rule c 1 2 push 2;rule s 1 0 pop 2;rule r 1 0 pop 0;"
                + "rule s 0 0 empty;rule r 0 0 empty;rule r 2 1 pop 1;",
        "call c;ret r;ret s;"
                + "automaton 3 symbols 3;start 0 1 2;accept 0 2;rule c 0 2 push 1;rule s 2 2 pop 1;rule c 2 2 push 0;"
                + "rule c 2 2 push 1;rule r 0 2 pop 1;rule s 0 0 pop 0;rule s 0 1 pop 2;rule c 2 0 push 2;"
                + "rule r 2 0 pop 0;rule c 0 0 push 2;rule s 1 2 pop 1;rule r 0 0 pop 1;rule r 2 0 pop 2;"
                + "rule s 2 1 pop 1;rule r 1 2 pop 1;rule r 0 0 pop 0;rule s 2 2 empty;rule s 2 1 pop 2;"
                + "rule s 1 0 pop 2;rule r 0 1 pop 0;"
                + "automaton 3 symbols 2;start 0 1;accept 0;rule s 2 1 pop 1;rule s 1 0 pop 0;rule r 2 2 pop 0;"
                + "rule s 0 2 pop 1;rule c 1 0 push 0;rule c 0 1 push 1;rule r 1 2 pop 1;rule r 1 2 pop 0;",
        "call c;call d;ret r;"
                + "automaton 3 symbols 2;start 0 1 2;accept 0 1;rule r 0 0 pop 1;rule c 0 2 push 1;rule d 0 0 push 1;"
                + "rule r 2 2 pop 0;rule r 1 2 pop 1;rule c 0 0 push 0;rule d 0 1 push 1;rule d 2 0 push 0;"
                + "rule c 2 1 push 0;rule d 1 0 push 0;rule c 2 0 push 0;rule r 2 0 pop 1;rule d 2 1 push 1;"
                + "rule d 2 1 push 0;rule c 1 1 push 0;"
                + "automaton 3 symbols 3;start 0 1 2;accept 0;rule d 1 0 push 2;rule r 0 0 pop 2;rule c 2 1 push 0;"
                + "rule r 0 1 pop 0;rule r 0 2 pop 1;rule c 0 2 push 1;",
        "call c;call d;ret r;ret s;"
                + "automaton 3 symbols 2;start 0 1 2;accept 1;rule c 1 1 push 0;rule d 1 2 push 1;rule s 2 1 pop 1;"
                + "rule d 1 1 push 0;rule r 1 1 pop 1;rule r 0 2 pop 1;rule s 1 0 pop 0;rule c 1 1 push 1;"
                + "rule d 1 0 push 1;rule d 0 2 push 1;rule s 0 2 pop 1;rule r 2 0 pop 0;rule r 0 2 empty;"
                + "rule d 1 2 push 0;rule c 1 2 push 1;rule s 0 2 pop 0;"
                + "automaton 3 symbols 3;start 0;accept 0;rule r 1 0 pop 0;rule d 2 2 push 2;rule s 2 1 pop 2;"
                + "rule s 0 2 pop 1;rule c 1 2 push 0;rule c 0 2 push 1;rule r 2 1 pop 0;",
        "call c;call d;ret r;ret s;"
                + "automaton 3 symbols 2;start 0;accept 1 2;rule r 1 1 pop 0;rule r 0 0 pop 0;rule s 1 2 pop 0;"
                + "rule s 0 0 pop 0;rule s 2 0 pop 0;rule c 2 1 push 1;rule s 0 1 pop 0;rule r 2 1 pop 0;"
                + "rule c 1 1 push 0;rule r 2 2 pop 1;rule r 0 2 pop 1;rule c 0 1 push 0;rule d 0 1 push 1;"
                + "rule d 1 0 push 1;rule s 1 2 pop 1;"
                + "automaton 3 symbols 2;start 0;accept 1;rule r 0 2 pop 1;rule c 0 0 push 1;rule r 1 0 pop 0;"
                + "rule c 1 1 push 0;rule s 2 1 pop 0;rule r 2 1 pop 1;",
        "call c;call d;ret r;inner i;inner j;"
                + "automaton 3 symbols 2;start 1;accept 1;rule c 0 2 push 0;rule r 2 2 pop 0;rule r 1 0 pop 1;"
                + "rule r 2 1 pop 1;rule d 0 0 push 1;rule c 2 2 push 0;rule d 2 2 push 0;rule r 0 1 pop 0;rule i 0 2;"
                + "rule j 2 0;rule c 2 1 push 1;rule c 0 1 push 0;rule c 2 2 push 1;"
                + "automaton 3 symbols 2;start 2;accept 2;rule c 1 2 push 0;rule r 1 1 pop 0;rule i 2 1;"
                + "rule d 0 2 push 0;rule i 1 2;rule c 2 0 push 0;rule d 1 0 push 1;rule r 0 0 pop 1;rule r 2 2 pop 1;"
                + "rule d 2 1 push 1;rule j 0 0;rule d 2 0 push 1;"
    };

    // Of TEXTS one by one: what is asked for (of the first AUTOMATON named, and the other), and its length.
    private static final boolean[] BOTH = {true, false, false, false, false, false};
    private static final int[] FIRST = {0, 1, 1, 1, 1, 1};
    private static final int[] LENGTHS = {335, 101, 84, 17, 16, 2};

    public static void main(String[] args) {
        for (int i = 0; i < TEXTS.length; i++) {
            NestedChecker x = new NestedChecker();
            Due.fine(x, "checker of " + TEXTS[i], Due.tell(x, TEXTS[i]), 2);
            int other = 1 - FIRST[i];
            int length = BOTH[i] ? x.both(FIRST[i], other) : x.parting(FIRST[i], other);
            Due.is("length of " + TEXTS[i], length, LENGTHS[i]);
            Due.refused(x, "At of " + TEXTS[i], BOTH[i] ? x.bothAt(FIRST[i], other, length) : x.partingAt(FIRST[i], other, length), 6);
            askAll(x, modelOf(TEXTS[i]), TEXTS[i]);
        }
        Due.end("NestedCheckerLongWords");
    }

    private static Model modelOf(String text) {
        Model y = new Model();
        y.tell(text);
        return y;
    }

    private static void askAll(NestedChecker x, Model y, String text) {
        for (int a = 0; a < 2; a++) {
            int b = 1 - a;
            same(x, y, "shortest " + text, x.shortest(a), y.shortest(a));
            same(x, y, "both " + text, x.both(a, b), y.both(a, b));
            same(x, y, "parting " + text, x.parting(a, b), y.parting(a, b));
            same(x, y, "missing " + text, x.missing(a), y.missing(a));
            same(x, y, "includes " + text, x.includes(a, b), y.includes(a, b));
            same(x, y, "equal " + text, x.equal(a, b), y.equal(a, b));
            same(x, y, "reaches " + text, x.reaches(a), y.reaches(a));
            for (int k = 0; k < 8; k++) {
                same(x, y, "shortestAt " + k + " " + text, x.shortestAt(a, k), y.shortestAt(a, k));
                same(x, y, "bothAt " + k + " " + text, x.bothAt(a, b, k), y.bothAt(a, b, k));
                same(x, y, "partingAt " + k + " " + text, x.partingAt(a, b, k), y.partingAt(a, b, k));
                same(x, y, "missingAt " + k + " " + text, x.missingAt(a, k), y.missingAt(a, k));
            }
            for (int pair = 0; pair < 9; pair++) {
                same(x, y, "well " + pair + " " + text, x.well(a, pair / 3, pair % 3), y.well(a, pair / 3, pair % 3));
            }
        }
    }

    private static void same(NestedChecker x, Model y, String what, int got, int want) {
        Due.is(what, got, want);
        Due.is(what + " STATUS", x.status(), y.status());
    }
}

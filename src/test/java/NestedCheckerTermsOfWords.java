import java.math.BigInteger;
import java.util.ArrayList;
import java.util.Arrays;
import java.util.List;

/**
 * What the document's Terms name of words, SUMMARIES, the MONITOR, draws, MARKS, FRACTIONS and STATUS
 * (==== 2 to ==== 4), a test for each sentence with a limit or with something that stays as it is.
 */
public final class NestedCheckerTermsOfWords {
    private static final String ALL = "call c;ret r;inner i;automaton 1 symbols 1;start 0;accept 0;"
            + "rule c 0 0 push 0;rule r 0 0 pop 0;rule r 0 0 empty;rule i 0 0;";

    public static void main(String[] args) {
        runsBeginInAStart();
        returnsGoByTheTop();
        whateverIsOnTheStack();
        partnersOfTwenty();
        pendingAndLoose();
        mostRuns();
        runsByEverySort();
        bitsOfSummaries();
        bitsOfSets();
        tableInItsOrder();
        fortySummaries();
        nothingChangesByAsking();
        fractionAloneChanges();
        wellToItself();
        shortestOfNone();
        firstOfSeveral();
        lastOfSeveral();
        reachesByEverySort();
        thirtyPending();
        manyLettersSeen();
        doomedHoweverManyPending();
        doomedByEverySort();
        belowAsItWas();
        belowOfTwo();
        drawsWrapAround();
        drawsOneBehindTheOther();
        threeMarks();
        marksKeepCheckerAndMonitor();
        fractionsWithoutDivisor();
        callsWithoutStatus();
        copiesOfAll();
        Due.end("NestedCheckerTermsOfWords");
    }

    private static NestedChecker of(String text) {
        NestedChecker x = new NestedChecker();
        Due.is("checker of " + text, Due.tell(x, text) >= 0, true);
        return x;
    }

    private static int[] row(int letter, int many) {
        int[] word = new int[many];
        Arrays.fill(word, letter);
        return word;
    }

    // ---- ==== 2: RUNS, PARTNERS, SUMMARIES

    private static void runsBeginInAStart() {
        NestedChecker x = of("inner i;automaton 3 symbols 1;accept 0 1 2;rule i 0 1;rule i 1 2;");
        Due.word(x, 0, 0, 0, 0);
        for (int n = 0; n <= 3; n++) {
            Due.fine(x, "2 no START, no RUN", x.ends(0, 0, n), 0);
            Due.fine(x, "2 no START, none is TAKEN", x.takes(0, 0, n), 0);
        }
        Due.fine(x, "30 no START", x.reaches(0), 0);
        Due.refused(x, "31 no START", x.shortest(0), 6);
        Due.fine(x, "37 no START", x.missing(0), 0);
        x.start(0, 0, true);
        x.start(0, 2, true);
        int[] ends = {5, 2, 4, 0};
        for (int n = 0; n <= 3; n++) {
            Due.fine(x, "2 from each START", x.ends(0, 0, n), ends[n]);
        }
    }

    // 0 on top is POPPED by 0 alone; EMPTY goes with nothing on the STACK alone.
    private static void returnsGoByTheTop() {
        NestedChecker x = of("call c;call d;ret r;automaton 3 symbols 2;start 0;accept 1 2;"
                + "rule c 0 0 push 0;rule d 0 0 push 1;rule r 0 1 pop 0;rule r 0 2 empty;");
        int[][] words = {{2}, {0, 2}, {1, 2}, {0, 1, 2}, {1, 0, 2}, {0, 2, 2}};
        int[] ends = {4, 2, 0, 0, 2, 0};
        for (int i = 0; i < words.length; i++) {
            Due.word(x, 0, words[i]);
            Due.fine(x, "2 word " + i, x.ends(0, 0, words[i].length), ends[i]);
        }
        x.add(0, 2, 1, 2, -1);
        Due.fine(x, "2 EMPTY once all is POPPED", x.ends(0, 0, 3), 4);
    }

    private static void whateverIsOnTheStack() {
        NestedChecker x = of(ALL);
        Due.word(x, 0, row(0, 20));
        Due.word(x, 1, row(1, 20));
        for (int n = 0; n <= 20; n++) {
            Due.fine(x, "2 PENDING ones are TAKEN", x.takes(0, 0, n), 1);
            Due.fine(x, "2 LOOSE ones are TAKEN", x.takes(0, 1, n), 1);
        }
    }

    private static void partnersOfTwenty() {
        NestedChecker x = of(ALL);
        int[] nested = new int[20];
        int[] beside = new int[20];
        for (int k = 0; k < 20; k++) {
            nested[k] = k < 10 ? 0 : 1;
            beside[k] = k % 2;
        }
        Due.word(x, 0, nested);
        Due.word(x, 1, beside);
        for (int k = 0; k < 20; k++) {
            Due.fine(x, "2 PARTNERS within each other", x.partner(0, 20, k), 19 - k);
            Due.fine(x, "2 PARTNERS beside each other", x.partner(1, 20, k), k % 2 == 0 ? k + 1 : k - 1);
        }
        Due.fine(x, "23 ten within each other", x.depth(0, 20, 2), 10);
        Due.fine(x, "23 one within each other", x.depth(1, 20, 2), 1);
        Due.fine(x, "2 its RETURN is not in the word", x.partner(0, 19, 1), 18);
        Due.refused(x, "2 its RETURN is not in the word", x.partner(0, 19, 0), 6);
    }

    private static void pendingAndLoose() {
        NestedChecker x = of(ALL);
        Due.word(x, 0, row(0, 20));
        Due.word(x, 1, row(1, 20));
        Due.word(x, 2, row(2, 20));
        for (int n = 0; n <= 20; n++) {
            Due.fine(x, "23 CALLS alone are PENDING", x.depth(0, n, 0), n);
            Due.fine(x, "23 CALLS alone are not LOOSE", x.depth(0, n, 1), 0);
            Due.fine(x, "23 PENDING ones are within each other", x.depth(0, n, 2), n);
            Due.fine(x, "23 RETURNS alone are LOOSE", x.depth(1, n, 1), n);
            Due.fine(x, "23 RETURNS alone are not PENDING", x.depth(1, n, 0) + x.depth(1, n, 2), 0);
            Due.fine(x, "23 INNER ones are neither", x.depth(2, n, 0) + x.depth(2, n, 1) + x.depth(2, n, 2), 0);
        }
        Due.word(x, 3, 1, 1, 0, 0, 1, 0);
        Due.is("23 two LOOSE, two PENDING, two deep", x.depth(3, 6, 1) * 100 + x.depth(3, 6, 0) * 10 + x.depth(3, 6, 2), 222);
        Due.refused(x, "24 a LOOSE one", x.partner(3, 6, 1), 6);
        Due.fine(x, "24 the nearest CALL that has none", x.partner(3, 6, 4), 3);
    }

    // Twenty RULES of a CALL, twenty LETTERS: more RUNS than an int holds.
    private static void mostRuns() {
        StringBuilder text = new StringBuilder("call c;automaton 3 symbols 3;start 0 1 2;accept 0 1 2;");
        BigInteger[][] ways = new BigInteger[3][3];
        for (BigInteger[] w : ways) {
            Arrays.fill(w, BigInteger.ZERO);
        }
        for (int i = 0; i < 20; i++) {
            text.append("rule c ").append(i % 3).append(' ').append(i / 3 % 3).append(" push ").append(i / 9).append(';');
            ways[i % 3][i / 3 % 3] = ways[i % 3][i / 3 % 3].add(BigInteger.ONE);
        }
        NestedChecker x = of(text.toString());
        x.tray(0, 0, 20);
        BigInteger[] now = {BigInteger.ONE, BigInteger.ONE, BigInteger.ONE};
        for (int n = 0; n <= 20; n++) {
            BigInteger want = now[0].add(now[1]).add(now[2]);
            Due.is("22 it fits at " + n, want.bitLength() < 63, true);
            Due.fine(x, "22 RUNS of " + n, x.runs(0, 0, n));
            Due.fraction(x, "22 RUNS of " + n, want.longValue(), 1);
            BigInteger[] then = {BigInteger.ZERO, BigInteger.ZERO, BigInteger.ZERO};
            for (int i = 0; i < 9; i++) {
                then[i % 3] = then[i % 3].add(now[i / 3].multiply(ways[i / 3][i % 3]));
            }
            now = then;
        }
    }

    private static void runsOf(NestedChecker x, long many, int... word) {
        Due.word(x, 0, word);
        Due.fine(x, "22 " + Arrays.toString(word), x.runs(0, 0, word.length));
        Due.fraction(x, "22 " + Arrays.toString(word), many, 1);
    }

    // i goes from 0 to 0 and 1, from 1 to 1 and 2; a RETURN of c goes back by what it PUSHED.
    private static void runsByEverySort() {
        NestedChecker x = of("call c;ret r;inner i;inner j;automaton 3 symbols 2;start 0 1;accept 1 2;"
                + "rule i 0 0;rule i 0 1;rule i 1 1;rule i 1 2;rule c 0 0 push 0;rule c 0 1 push 1;rule c 1 2 push 0;"
                + "rule r 0 1 empty;rule r 1 2 empty;rule r 1 2 pop 0;rule r 2 1 pop 1;rule r 1 1 pop 1;rule r 2 2 pop 0;");
        runsOf(x, 1);
        runsOf(x, 3, 2);
        runsOf(x, 5, 2, 2);
        runsOf(x, 0, 3);
        runsOf(x, 2, 1);
        runsOf(x, 1, 1, 1);
        runsOf(x, 2, 0);
        runsOf(x, 2, 0, 1);
        runsOf(x, 3, 0, 2, 1);
        runsOf(x, 3, 2, 0, 2, 1);
    }

    // 1 times 2 to the 3 times p and q; 1 for STATE 0, 2, 4.
    private static void bitsOfSummaries() {
        for (int p = 0; p < 3; p++) {
            for (int q = 0; q < 3; q++) {
                NestedChecker x = of("inner i;automaton 3 symbols 1;start " + p + ";accept " + q + ";rule i " + p + " " + q + ";");
                int k = x.next(0, 0, 0);
                Due.fine(x, "2 S of START", x.summary(0, 0, 1), 1 + 16 + 256);
                Due.fine(x, "2 R of START", x.summary(0, 0, 0), 1 << p);
                Due.fine(x, "2 the pair of " + p + " and " + q, x.summary(0, k, 1), 1 << 3 * p + q);
                Due.fine(x, "2 the STATE " + q, x.summary(0, k, 0), 1 << q);
                Due.fine(x, "26 an ACCEPT is in R", x.summary(0, k, 2), 1);
            }
        }
        NestedChecker y = of("automaton 1 symbols 1;automaton 2 symbols 1;");
        Due.fine(y, "2 S of one STATE", y.summary(0, 0, 1), 1);
        Due.fine(y, "2 S of two STATES", y.summary(1, 0, 1), 1 + 16);
    }

    private static void bitsOfSets() {
        NestedChecker x = of("inner i;automaton 3 symbols 1;start 2;accept 2;rule i 2 2;");
        x.tray(0, 0, 1);
        Due.fine(x, "13 STARTS", x.automaton(0, 2), 4);
        Due.fine(x, "13 ACCEPTS", x.automaton(0, 3), 4);
        Due.fine(x, "21 ends", x.ends(0, 0, 1), 4);
        Due.fine(x, "30 reaches", x.reaches(0), 4);
        x.watch(0);
        Due.fine(x, "48 R", x.seen(3), 4);
    }

    // By LETTERS first, then j from 0 to k, CALLS, RETURNS, k with j below, j with k below: any other
    // order would give these twelve other numbers.
    private static void tableInItsOrder() {
        NestedChecker x = of("call c;call d;ret r;ret s;automaton 2 symbols 2;start 0;accept 1;"
                + "rule d 0 1 push 1;rule r 1 1 pop 0;rule d 0 1 push 0;rule s 0 0 pop 1;"
                + "rule c 1 0 push 1;rule c 0 0 push 1;rule r 0 0 pop 0;");
        int[][] rows = {{1, 17}, {2, 17}, {0, 0}, {1, 9}, {2, 2}, {0, 17}, {0, 2}, {1, 1}, {2, 18}, {0, 1}, {0, 9}, {0, 18}};
        Due.fine(x, "2 TABLE", x.table(0), rows.length);
        for (int k = 0; k < rows.length; k++) {
            Due.fine(x, "2 R of SUMMARY " + k, x.summary(0, k, 0), rows[k][0]);
            Due.fine(x, "2 S of SUMMARY " + k, x.summary(0, k, 1), rows[k][1]);
            Due.fine(x, "26 an ACCEPT is in R of " + k, x.summary(0, k, 2), rows[k][0] / 2);
        }
        Due.fine(x, "27 by d", x.next(0, 0, 1), 1);
        Due.fine(x, "27 by a RETURN with nothing below", x.next(0, 0, 2), 2);
        Due.fine(x, "28 by s with 0 and c below", x.nextBack(0, 0, 3, 0, 0), 3);
        Due.fine(x, "28 by r with 0 and d below", x.nextBack(0, 0, 2, 0, 1), 4);
    }

    // The first one's is just full, the second one's would have one too many.
    private static void fortySummaries() {
        NestedChecker x = of("call c;ret r;inner i;automaton 3 symbols 2;start 0;accept 2;"
                + "rule r 0 0 empty;rule i 1 0;rule i 2 1;rule i 0 1;rule r 1 2 empty;"
                + "automaton 3 symbols 2;start 0;accept 2;"
                + "rule i 0 0;rule r 1 1 empty;rule i 1 0;rule i 2 1;rule i 0 2;");
        Due.fine(x, "25 just 40", x.table(0), 40);
        Due.is("26 the 40th", x.summary(0, 39, 1) >= 0, true);
        Due.fine(x, "27 of the 40th by a CALL", x.summary(0, x.next(0, 39, 0), 1), 1 + 16 + 256);
        Due.is("28 of the 40th", x.nextBack(0, 39, 1, 39, 0) >= 0, true);
        Due.refused(x, "26 no 41st", x.summary(0, 40, 0), 6);
        Due.refused(x, "27 no 41st", x.next(0, 40, 0), 6);
        Due.refused(x, "28 no 41st", x.nextBack(0, 40, 1, 0, 0), 6);
        Due.refused(x, "28 no 41st below", x.nextBack(0, 0, 1, 40, 0), 6);
        Due.is("35 by that of just 40", x.parting(1, 0) >= 0, true);
        Due.is("37 by that of just 40", x.missing(0) >= 0, true);
        Due.refused(x, "25 41", x.table(1), 7);
        Due.refused(x, "40 41", x.equal(0, 1), 7);
        x.drop(1, 4);
        Due.is("25 fewer again", x.table(1) > 0, true);
        Due.is("40 fewer again", x.equal(0, 1), 0);
    }

    // ---- ==== 3: all ahead is as all is now; nothing changes by it

    private static void nothingChangesByAsking() {
        Twins.Call[] asks = {x -> x.read(0, 0), x -> x.told(0), x -> x.automaton(0, 0), x -> x.rule(0, 0, 0), x -> x.takes(0, 0, 5),
            x -> x.ends(0, 0, 5), x -> x.depth(0, 5, 2), x -> x.partner(0, 5, 0), x -> x.table(0), x -> x.summary(0, 0, 1),
            x -> x.next(0, 0, 0), x -> x.nextBack(0, 0, 1, 0, 0), x -> x.well(0, 0, 1), x -> x.reaches(0), x -> x.shortest(0),
            x -> x.shortestAt(0, 0), x -> x.both(0, 1), x -> x.bothAt(0, 1, 0), x -> x.parting(0, 1), x -> x.partingAt(0, 1, 0),
            x -> x.missing(1), x -> x.missingAt(1, 0), x -> x.includes(0, 1), x -> x.equal(0, 1), x -> x.count(0, 6),
            x -> x.lastAt(0, 6, 0), x -> x.seen(3), x -> x.doomed(), x -> x.status(), x -> x.top(), x -> x.bottom(), x -> x.fault(1)};
        for (int i = 0; i < asks.length; i++) {
            NestedChecker x = NestedCheckerRefusals.full();
            asks[i].of(x);
            long again = asks[i].of(x);
            Due.is("3 the same answer again, ask " + i, asks[i].of(NestedCheckerRefusals.full()), again);
            Twins.same("3 nothing changes by ask " + i, Twins.ledger(x), Twins.ledger(NestedCheckerRefusals.full()));
        }
    }

    // Entries 0 and 1 of the ledger are the FRACTION.
    private static void fractionAloneChanges() {
        Twins.Call[] asks = {x -> Twins.is(x.runs(0, 0, 5)), x -> Twins.is(x.share(0, 4)), x -> Twins.is(x.chance(0, 3, 7, 5))};
        for (int i = 0; i < asks.length; i++) {
            NestedChecker x = NestedCheckerRefusals.full();
            Due.is("3 answered", asks[i].of(x), 1);
            List<Long> then = Twins.ledger(x);
            List<Long> ahead = Twins.ledger(NestedCheckerRefusals.full());
            Twins.same("3 the FRACTION alone changes " + i, then.subList(2, then.size()), ahead.subList(2, ahead.size()));
            Due.is("3 the FRACTION is told anew " + i, then.subList(0, 2).equals(ahead.subList(0, 2)), false);
        }
    }

    private static void wellToItself() {
        NestedChecker x = of("automaton 3 symbols 1;");
        for (int q = 0; q < 3; q++) {
            Due.fine(x, "3 WELL to itself without any RULES", x.well(0, q, q), 0);
            Due.refused(x, "3 WELL to another one", x.well(0, q, (q + 1) % 3), 6);
        }
    }

    private static void shortestOfNone() {
        NestedChecker x = of("automaton 1 symbols 1;start 0;accept 0;automaton 1 symbols 1;start 0;");
        Due.fine(x, "3 the word of none is TAKEN", x.shortest(0), 0);
        Due.refused(x, "3 none is TAKEN", x.shortest(1), 6);
        Due.fine(x, "3 the word of none is MISSING", x.missing(1), 0);
        Due.refused(x, "3 none is MISSING", x.missing(0), 6);
        Due.fine(x, "3 the word of none is PARTING", x.parting(0, 1), 0);
        Due.refused(x, "3 none is PARTING", x.parting(1, 0), 6);
        Due.refused(x, "3 none is of BOTH", x.both(0, 1), 6);
        Due.fine(x, "39 all of none", x.includes(1, 0), 1);
        Due.fine(x, "39 not of the word of none", x.includes(0, 1), 0);
        x.accept(1, 0, true);
        Due.fine(x, "3 the word of none is of BOTH", x.both(0, 1), 0);
        Due.fine(x, "40 no LETTERS", x.equal(0, 1), 1);
    }

    // Words of two LETTERS by RULES told from the last LETTER on: the first by LETTERS, one by one.
    private static void firstOfSeveral() {
        NestedChecker x = of("call c;call d;ret r;ret s;inner i;inner j;automaton 3 symbols 1;start 0;accept 2;"
                + "rule j 0 1;rule i 0 1;rule s 0 1 empty;rule r 0 1 empty;rule d 0 1 push 0;"
                + "rule j 1 2;rule i 1 2;rule s 1 2 empty;rule r 1 2 empty;rule d 1 2 push 0;rule s 1 2 pop 0;");
        Due.fine(x, "3 SHORTEST", x.shortest(0), 2);
        Due.is("3 the first is d d", x.shortestAt(0, 0) * 10 + x.shortestAt(0, 1), 11);
        Due.is("43 the last is j j", x.lastAt(0, 2, 0) * 10 + x.lastAt(0, 2, 1), 55);
        x.drop(0, 9);
        Due.is("3 the first is d s", x.shortestAt(0, 0) * 10 + x.shortestAt(0, 1), 13);
        x.drop(0, 4);
        Due.is("3 the first is r r", x.shortestAt(0, 0) * 10 + x.shortestAt(0, 1), 22);
        x.drop(0, 0);
        Due.is("43 the last is i j", x.lastAt(0, 2, 0) * 10 + x.lastAt(0, 2, 1), 45);
    }

    private static void lastIs(String text, int... word) {
        NestedChecker x = of(text);
        for (int k = 0; k < word.length; k++) {
            Due.fine(x, "43 the last of " + text, x.lastAt(0, word.length, k), word[k]);
        }
    }

    private static void lastOfSeveral() {
        lastIs("call c;call d;automaton 1 symbols 1;start 0;accept 0;rule c 0 0 push 0;rule d 0 0 push 0;", 1, 1, 1, 1, 1, 1);
        lastIs("ret r;ret s;automaton 1 symbols 1;start 0;accept 0;rule r 0 0 empty;rule s 0 0 empty;", 1, 1, 1, 1, 1, 1);
        lastIs("call c;ret r;inner i;automaton 1 symbols 1;start 0;accept 0;rule c 0 0 push 0;rule r 0 0 pop 0;", 0, 1, 0, 1, 0, 1);
        // All within one CALL and its RETURN.
        String within = "call c;ret r;inner i;automaton 3 symbols 2;start 0;accept 2;"
                + "rule c 0 1 push 0;rule c 1 1 push 1;rule r 1 1 pop 1;rule r 1 2 pop 0;";
        lastIs(within, 0, 0, 1, 0, 1, 1);
        lastIs(within + "rule i 1 1;", 0, 2, 2, 2, 2, 1);
        lastIs(within + "rule i 2 2;", 0, 1, 2, 2, 2, 2);
    }

    private static void reachesIs(String rules, int set) {
        NestedChecker x = of("call c;ret r;inner i;automaton 3 symbols 2;start 0;" + rules);
        Due.fine(x, "30 by " + rules, x.reaches(0), set);
    }

    private static void reachesByEverySort() {
        reachesIs("", 1);
        reachesIs("rule i 0 1;", 3);
        reachesIs("rule i 1 2;rule i 0 1;", 7);
        reachesIs("rule i 1 2;", 1);
        reachesIs("rule r 0 1 empty;rule i 1 2;", 7);
        reachesIs("rule r 1 2 empty;rule r 0 1 empty;", 7);
        reachesIs("rule r 0 1 pop 0;rule r 1 2 pop 0;", 1);
        reachesIs("rule c 0 1 push 0;rule i 1 2;", 7);
        reachesIs("rule c 0 1 push 0;rule r 1 2 empty;", 3);
        reachesIs("rule c 0 1 push 0;rule r 1 2 pop 1;", 3);
        reachesIs("rule c 0 0 push 0;rule r 0 1 pop 0;rule r 1 2 empty;", 7);
        reachesIs("rule c 0 0 push 0;rule r 0 1 pop 0;rule c 1 2 push 1;", 7);
    }

    // ---- the MONITOR

    private static void thirtyPending() {
        NestedChecker x = of(ALL);
        x.watch(0);
        for (int n = 1; n <= 30; n++) {
            Due.fine(x, "3 PENDING " + n, x.see(0), 1);
            Due.fine(x, "3 PENDING " + n, x.seen(2), n);
        }
        Due.refused(x, "3 a 31st", x.see(0), 4);
        Due.fine(x, "3 it did not see it", x.seen(1), 30);
        for (int n = 29; n >= 0; n--) {
            Due.fine(x, "3 back to " + n, x.see(1), 1);
            Due.fine(x, "3 back to " + n, x.seen(2), n);
        }
        Due.fine(x, "3 a LOOSE one is not below none", x.see(1), 1);
        Due.fine(x, "3 a LOOSE one is not below none", x.seen(2), 0);
        Due.fine(x, "3 all were seen", x.seen(1), 61);
    }

    // Some 480 calls of one object: LETTERS are seen without a bound, PENDING ones alone have one.
    private static void manyLettersSeen() {
        NestedChecker x = of(ALL);
        x.watch(0);
        for (int n = 1; n <= 480; n++) {
            x.see(n % 3);
        }
        Due.fine(x, "48 how many LETTERS", x.seen(1), 480);
    }

    private static void doomedHoweverManyPending() {
        NestedChecker x = of("call c;call d;automaton 2 symbols 1;start 0;accept 1;rule c 0 0 push 0;rule d 0 1 push 0;");
        x.watch(0);
        for (int n = 0; n < 30; n++) {
            Due.fine(x, "49 a d can come at " + n, x.doomed(), 0);
            x.see(0);
        }
        Due.fine(x, "49 a 31st would save it", x.doomed(), 0);
        Due.refused(x, "47 though it can't be seen", x.see(1), 4);
        x.drop(0, 1);
        Due.fine(x, "49 no more", x.doomed(), 1);
        x.accept(0, 0, true);
        Due.fine(x, "49 TAKEN as it is", x.doomed(), 0);
    }

    private static void doomedIs(String rules, int doomed, int... word) {
        NestedChecker x = of("call c;ret r;inner i;automaton 3 symbols 2;start 0;" + rules);
        x.watch(0);
        for (int letter : word) {
            x.see(letter);
        }
        Due.fine(x, "49 by " + rules + Arrays.toString(word), x.doomed(), doomed);
    }

    private static void doomedByEverySort() {
        doomedIs("", 1);
        doomedIs("accept 0;", 0);
        doomedIs("accept 1;rule i 0 1;", 0);
        doomedIs("accept 1;rule r 0 1 empty;", 0);
        doomedIs("accept 1;rule c 0 1 push 0;", 0);
        doomedIs("accept 2;rule c 0 1 push 0;rule i 1 2;", 0, 0);
        // With something on the STACK no EMPTY RULE goes, behind the RETURN it does.
        doomedIs("accept 1;rule c 0 0 push 0;rule r 0 1 empty;", 1, 0);
        doomedIs("accept 1;rule c 0 0 push 0;rule r 0 1 empty;rule r 0 0 pop 0;", 0, 0);
        // What was 0 ahead of the CALL is 0 again by no RETURN.
        doomedIs("accept 0;rule c 0 1 push 0;", 1, 0);
        doomedIs("accept 0;rule c 0 1 push 0;rule r 1 0 pop 1;", 1, 0);
        doomedIs("accept 0;rule c 0 1 push 0;rule r 1 0 pop 0;", 0, 0);
        doomedIs("accept 0;rule c 0 1 push 0;rule r 1 0 pop 0;", 1, 0, 2);
    }

    // What is between two PENDING CALLS counts when both RETURNS come, though its RULE is no more.
    private static void belowOfTwo() {
        NestedChecker x = of("call c;call d;ret r;inner i;automaton 3 symbols 2;start 0;accept 0;"
                + "rule i 1 2;rule c 0 1 push 0;rule d 2 2 push 1;rule r 2 2 pop 1;rule r 2 0 pop 0;");
        x.watch(0);
        for (int letter : new int[] {0, 3, 1}) {
            x.see(letter);
        }
        x.drop(0, 0);
        Due.fine(x, "49 by both RETURNS", x.doomed(), 0);
        Due.fine(x, "47 by one", x.see(2), 0);
        Due.fine(x, "49 by the other", x.doomed(), 0);
        Due.fine(x, "47 by both", x.see(2), 1);
    }

    // The SUMMARY below is that of when the CALL was seen, by a RULE that is no more.
    private static void belowAsItWas() {
        NestedChecker x = of("call c;ret r;inner i;automaton 3 symbols 1;start 0;accept 2;rule i 0 1;rule c 1 1 push 0;rule r 1 2 pop 0;");
        x.watch(0);
        x.see(2);
        x.see(0);
        x.drop(0, 0);
        x.start(0, 0, false);
        Due.fine(x, "3 not DOOMED", x.doomed(), 0);
        Due.fine(x, "3 TAKEN by what is below", x.see(1), 1);
        Due.fine(x, "46 anew it is as all is now", x.watch(0), 0);
        Due.fine(x, "46 no START", x.seen(3), 0);
        Due.fine(x, "49 no START", x.doomed(), 1);
    }

    // ---- draws

    private static List<Integer> draws(int seed, int by, int many) {
        List<Integer> all = new ArrayList<>();
        BigInteger s = BigInteger.valueOf(seed);
        for (int i = 0; i < many; i++) {
            s = s.multiply(BigInteger.valueOf(3287)).add(BigInteger.valueOf(11519)).mod(BigInteger.valueOf(65536));
            all.add(s.divide(BigInteger.valueOf(8)).mod(BigInteger.valueOf(by)).intValue());
        }
        return all;
    }

    private static void drawsWrapAround() {
        String[] letters = {"call c;", "call d;", "ret r;", "ret s;", "inner i;", "inner j;"};
        StringBuilder text = new StringBuilder();
        for (int many = 1; many <= 6; many++) {
            text.append(letters[many - 1]);
            NestedChecker x = of(text.toString());
            x.tray(1, 0, 60);
            for (int seed : new int[] {0, 1, 4999, 9998, 9999}) {
                x.write(1, 20, 77);
                Due.fine(x, "44 twenty", x.sample(1, 20, seed));
                List<Integer> want = draws(seed, many, 20);
                for (int k = 0; k < 20; k++) {
                    Due.fine(x, "44 seed " + seed + " by " + many, x.read(1, k), want.get(k));
                }
                Due.fine(x, "44 no more than n", x.read(1, 20), 77);
                Due.fine(x, "44 none", x.sample(1, 0, seed));
                Due.fine(x, "44 none", x.read(1, 0), want.get(0));
            }
        }
    }

    // Fifty words of twenty LETTERS: a thousand draws; TAKEN are those without a LOOSE RETURN.
    private static void drawsOneBehindTheOther() {
        NestedChecker x = of("call c;ret r;inner i;automaton 1 symbols 1;start 0;accept 0;rule c 0 0 push 0;rule r 0 0 pop 0;rule i 0 0;");
        for (int n : new int[] {0, 1, 2, 5, 20}) {
            for (int many : new int[] {1, 2, 49, 50}) {
                List<Integer> drawn = draws(9999, 3, n * many);
                int taken = 0;
                for (int w = 0; w < many; w++) {
                    int open = 0;
                    int least = 0;
                    for (int l : drawn.subList(w * n, w * n + n)) {
                        open += l == 0 ? 1 : l == 1 ? -1 : 0;
                        least = Math.min(least, open);
                    }
                    taken += least == 0 ? 1 : 0;
                }
                Due.fine(x, "45 " + many + " of " + n, x.chance(0, n, many, 9999));
                int divisor = BigInteger.valueOf(taken).gcd(BigInteger.valueOf(many)).intValue();
                Due.fraction(x, "45 " + many + " of " + n, taken / divisor, many / divisor);
            }
        }
    }

    // ---- MARKS

    private static void threeMarks() {
        NestedChecker x = new NestedChecker();
        Due.refused(x, "51 none yet", x.undo(), 6);
        for (int round = 0; round < 2; round++) {
            for (int i = 1; i <= 3; i++) {
                Due.fine(x, "50 how many there are", x.mark(), i);
            }
            Due.refused(x, "50 a fourth", x.mark(), 4);
            Due.refused(x, "50 a fourth again", x.mark(), 4);
            for (int i = 2; i >= 0; i--) {
                Due.fine(x, "51 how many are left", x.undo(), i);
            }
            Due.refused(x, "51 the latest is gone then", x.undo(), 6);
        }
    }

    private static void marksKeepCheckerAndMonitor() {
        NestedChecker x = of(ALL);
        x.mark();
        for (int n = 0; n < 30; n++) {
            x.watch(0);
        }
        for (int n = 0; n < 30; n++) {
            x.see(0);
        }
        x.mark();
        x.checker(0);
        x.mark();
        Due.tell(x, "inner a;inner b;automaton 3 symbols 3;start 2;");
        x.watch(0);
        Due.fine(x, "51 two left", x.undo(), 2);
        Due.is("51 nothing was told", x.told(0) + x.told(2) + x.told(3), 0);
        Due.fine(x, "51 one left", x.undo(), 1);
        Due.fine(x, "51 thirty PENDING", x.seen(2), 30);
        Due.refused(x, "51 thirty PENDING", x.see(0), 4);
        for (int n = 29; n >= 0; n--) {
            Due.fine(x, "51 what is below is as it was", x.see(1), 1);
        }
        Due.fine(x, "51 none left", x.undo(), 0);
        Due.refused(x, "51 it watched none", x.seen(0), 6);
        Due.fine(x, "51 the CHECKER", x.automaton(0, 4), 4);
    }

    // ---- FRACTIONS and STATUS

    private static void fractionsWithoutDivisor() {
        NestedChecker x = of("inner i;inner j;automaton 2 symbols 1;start 0;accept 0;rule i 0 0;rule i 0 1;rule j 1 0;");
        long[][] shares = {{1, 1}, {1, 2}, {1, 2}, {3, 8}, {5, 16}, {1, 4}, {13, 64}};
        for (int n = 0; n <= 6; n++) {
            Due.fine(x, "42 share of " + n, x.share(0, n));
            Due.fraction(x, "42 share of " + n, shares[n][0], shares[n][1]);
        }
        x.accept(0, 0, false);
        for (int n = 0; n <= 6; n++) {
            Due.fine(x, "42 none of " + n, x.share(0, n));
            Due.fraction(x, "3 0 is 0 by 1", 0, 1);
        }
        Due.fine(x, "45 none of 50", x.chance(0, 3, 50, 1));
        Due.fraction(x, "3 0 is 0 by 1", 0, 1);
        x.tray(0, 0, 1);
        Due.fine(x, "22 none", x.runs(0, 0, 1));
        Due.fraction(x, "3 0 is 0 by 1", 0, 1);
    }

    private static void callsWithoutStatus() {
        NestedChecker x = of(ALL);
        int[] statuses = {0, 1, 6};
        Twins.Call[] calls = {y -> y.told(0), y -> y.told(4), y -> y.undo()};
        for (int i = 0; i < calls.length; i++) {
            calls[i].of(x);
            x.top();
            x.bottom();
            x.feed(1, 2, 3, 4, 5);
            x.fault(0);
            x.fault(9);
            x.status();
            Due.is("4 they have no STATUS", x.status(), statuses[i]);
        }
    }

    private static void copiesOfAll() {
        StringBuilder text = new StringBuilder("call c;ret r;inner i;automaton 3 symbols 3;start 0 2;accept 1 2;");
        for (int i = 0; i < 20; i++) {
            text.append("rule c ").append(i % 3).append(' ').append(i / 3 % 3).append(" push ").append(i / 9).append(';');
        }
        NestedChecker x = of(text + "automaton 1 symbols 1;rule i 0 0;");
        x.mark();
        Due.fine(x, "19 twenty RULES", x.copy(0, 1));
        for (int what = 0; what < 5; what++) {
            Due.is("19 in all: " + what, x.automaton(1, what), x.automaton(0, what));
        }
        for (int k = 0; k < 20; k++) {
            for (int what = 0; what < 4; what++) {
                Due.fine(x, "19 RULE " + k, x.rule(1, k, what), x.rule(0, k, what));
            }
        }
        Due.refused(x, "19 full, too", x.add(1, 2, 0, 0, -1), 4);
        Due.fine(x, "51 undo", x.undo(), 0);
        Due.fine(x, "19 one RULE", x.copy(1, 0));
        Due.is("19 fewer, in all", x.automaton(0, 0) * 10 + x.automaton(0, 4), 11);
        Due.is("19 fewer, in all", x.automaton(0, 1) + x.automaton(0, 2) + x.automaton(0, 3), 1);
        Due.refused(x, "19 no such STATE then", x.start(0, 1, true), 1);
        Due.refused(x, "19 no such RULE then", x.rule(0, 1, 0), 1);
    }
}

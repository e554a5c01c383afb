/**
 * Promise by promise, each number at its limits: the last that is taken, the first that is refused,
 * below and above and far away; each refused call's answer, its STATUS, the order in which a STATUS is
 * asked for, and that nothing else has changed.
 */
public final class NestedCheckerRefusals {
    private static final int MIN = Twins.MIN;
    private static final int MAX = Twins.MAX;

    // Automaton 0 takes CALLS (and i) with RETURNS behind them, at least one; automaton 1 takes
    // words without i and without a LOOSE RETURN.
    private static final String BASE =
            "call c;ret r;inner i;"
            + "automaton 2 symbols 1;start 0;accept 1;"
            + "rule c 0 0 push 0;rule r 0 1 pop 0;rule r 1 1 pop 0;rule i 0 0;"
            + "automaton 1 symbols 1;start 0;accept 0;rule c 0 0 push 0;rule r 0 0 pop 0;";

    // Two of each sort of LETTERS, 3 STATES, 3 SYMBOLS; the second one takes every word.
    private static final String WIDE =
            "call c;call d;ret r;ret s;inner i;inner j;"
            + "automaton 3 symbols 3;start 0;accept 2;rule c 0 1 push 2;rule r 1 2 pop 2;rule i 2 2;"
            + "automaton 1 symbols 1;start 0;accept 0;rule c 0 0 push 0;rule d 0 0 push 0;rule r 0 0 pop 0;"
            + "rule s 0 0 pop 0;rule r 0 0 empty;rule s 0 0 empty;rule i 0 0;rule j 0 0;";

    // The first one's TABLE would have more than 40, the second one's has 2.
    private static final String TOO_WIDE =
            "call c;ret r;inner i;inner j;automaton 3 symbols 1;start 0;accept 0;"
            + "rule i 0 1;rule i 1 2;rule i 2 0;rule j 0 1;rule j 1 0;rule j 2 2;rule j 0 2;"
            + "automaton 1 symbols 1;start 0;accept 0;rule i 0 0;";

    // The first one's SHORTEST has 7 LETTERS, the second one takes nothing.
    private static final String SEVEN =
            "call c;ret r;automaton 3 symbols 2;start 0;accept 2;"
            + "rule c 1 0 push 1;rule r 0 0 pop 1;rule r 1 2 pop 1;rule c 0 1 push 0;rule r 0 1 pop 0;"
            + "automaton 1 symbols 1;start 0;rule c 0 0 push 0;rule r 0 0 pop 0;";

    public static void main(String[] args) {
        tray();
        writeAndRead();
        pour();
        pourTooFew();
        checker();
        checkerWithAFault();
        told();
        automaton();
        rule();
        add();
        addTooMany();
        drop();
        startAndAccept();
        copy();
        words();
        depthAndPartner();
        table();
        summary();
        next();
        nextBack();
        well();
        reaches();
        shortest();
        both();
        parting();
        missing();
        includesAndEqual();
        moreThanSix();
        tableThatCannotBe();
        countAndShare();
        lastAt();
        sample();
        chance();
        watch();
        see();
        seenAndDoomed();
        marks();
        nothingTold();
        Due.end("NestedCheckerRefusals");
    }

    // ---- objects in which a change of anything can be seen

    /** No tape; TRAY 3 is MISSING, TRAY 2 has a number that is no LETTER. */
    static NestedChecker bare() {
        NestedChecker x = of(BASE);
        x.share(0, 2);
        Due.word(x, 0, 0, 2, 0, 1, 1);
        x.tray(1, 1, 22);
        x.tray(2, 0, 2);
        x.write(2, 1, 3);
        x.mark();
        x.watch(1);
        x.see(0);
        x.mark();
        x.start(0, 1, true);
        x.start(0, 1, false);
        x.watch(0);
        x.see(2);
        x.see(0);
        x.see(0);
        Due.tell(x, "call c;x");
        return x;
    }

    /** With a tape of 20 bytes. */
    static NestedChecker full() {
        NestedChecker x = bare();
        x.feed(0x63616c6c, 0x20746170, 0x653b7265, 0x7420743b, 0x20202020);
        return x;
    }

    private static NestedChecker fourTrays() {
        NestedChecker x = full();
        for (int t = 0; t < 4; t++) {
            x.tray(t, 2, 3);
            x.write(t, 0, 0);
            x.write(t, 1, 1);
            x.write(t, 2, 2);
        }
        return x;
    }

    /** A new one with such a CHECKER, a FRACTION, a TRAY, a MARK and, where it can be, a MONITOR. */
    private static Twins.Recipe with(String text) {
        return () -> {
            NestedChecker x = of(text);
            Due.word(x, 1, 0, 0, 0);
            x.chance(0, 0, 1, 0);
            x.mark();
            x.watch(0);
            x.see(0);
            return x;
        };
    }

    private static NestedChecker of(String text) {
        NestedChecker x = new NestedChecker();
        Due.is("checker of " + text, Due.tell(x, text) >= 0, true);
        return x;
    }

    private static String rules(int many) {
        StringBuilder t = new StringBuilder("call c;ret r;inner i;automaton 3 symbols 3;start 0;accept 0;");
        for (int i = 0; i < many; i++) {
            t.append("rule c ").append(i % 3).append(' ').append(i / 3 % 3).append(" push ").append(i / 9).append(';');
        }
        return t.toString();
    }

    private static long is(boolean answer) {
        return Twins.is(answer);
    }

    private static void refused(String what, Twins.Recipe recipe, Twins.Call call, int status) {
        Twins.refused(what, recipe, call, status);
    }

    private static void limits(String what, Twins.Recipe recipe, Twins.CallBy call, int least, int most, int status) {
        Twins.limits(what, recipe, call, least, most, status);
    }

    // ---- TRAYS, 5 to 8

    private static void tray() {
        limits("5 TRAYS 0 to 3", NestedCheckerRefusals::full, (x, v) -> is(x.tray(v, 0, 1)), 0, 3, 1);
        limits("5 sorts 0 to 3", NestedCheckerRefusals::full, (x, v) -> is(x.tray(0, v, 1)), 0, 3, 1);
        limits("5 0 to 60 numbers", NestedCheckerRefusals::full, (x, v) -> is(x.tray(0, 0, v)), 0, 60, 1);
    }

    private static void writeAndRead() {
        limits("6 TRAYS 0 to 3", NestedCheckerRefusals::fourTrays, (x, v) -> is(x.write(v, 0, 5)), 0, 3, 1);
        limits("7 TRAYS 0 to 3", NestedCheckerRefusals::fourTrays, (x, v) -> x.read(v, 0), 0, 3, 1);
        limits("6 places", NestedCheckerRefusals::full, (x, v) -> is(x.write(0, v, 5)), 0, 4, 3);
        limits("7 places", NestedCheckerRefusals::full, (x, v) -> x.read(0, v), 0, 4, 3);
        for (int place : new int[] {MIN, -1, 0, 99, MAX}) {
            refused("6 MISSING, place " + place, NestedCheckerRefusals::full, x -> is(x.write(3, place, 5)), 2);
            refused("7 MISSING, place " + place, NestedCheckerRefusals::full, x -> x.read(3, place), 2);
            refused("6 no such TRAY, place " + place, NestedCheckerRefusals::full, x -> is(x.write(4, place, 5)), 1);
            refused("7 no such TRAY, place " + place, NestedCheckerRefusals::full, x -> x.read(-1, place), 1);
        }
        Twins.Recipe empty = () -> {
            NestedChecker x = full();
            x.tray(0, 3, 0);
            return x;
        };
        refused("6 a TRAY of none has no place", empty, x -> is(x.write(0, 0, 5)), 3);
        refused("7 a TRAY of none has no place", empty, x -> x.read(0, 0), 3);
    }

    private static void pour() {
        limits("8 from TRAYS 0 to 3", NestedCheckerRefusals::fourTrays, (x, v) -> is(x.pour(v, 0, 1, 0, 1)), 0, 3, 1);
        limits("8 to TRAYS 0 to 3", NestedCheckerRefusals::fourTrays, (x, v) -> is(x.pour(1, 0, v, 0, 1)), 0, 3, 1);
        for (int below : new int[] {-1, MIN}) {
            refused("8 place below 0", NestedCheckerRefusals::fourTrays, x -> is(x.pour(0, below, 1, 0, 1)), 1);
            refused("8 at below 0", NestedCheckerRefusals::fourTrays, x -> is(x.pour(0, 0, 1, below, 1)), 1);
            refused("8 many below 0", NestedCheckerRefusals::fourTrays, x -> is(x.pour(0, 0, 1, 0, below)), 1);
            refused("8 below 0 ahead of MISSING", NestedCheckerRefusals::full, x -> is(x.pour(0, below, 3, 0, 0)), 1);
            refused("8 below 0 ahead of unlike", NestedCheckerRefusals::full, x -> is(x.pour(0, 0, 1, 0, below)), 1);
        }
        refused("8 from MISSING", NestedCheckerRefusals::full, x -> is(x.pour(3, 0, 0, 0, 1)), 2);
        refused("8 to MISSING", NestedCheckerRefusals::full, x -> is(x.pour(0, 0, 3, 0, 1)), 2);
        refused("8 both MISSING", NestedCheckerRefusals::full, x -> is(x.pour(3, 0, 3, 0, 0)), 2);
        refused("8 MISSING ahead of too few", NestedCheckerRefusals::full, x -> is(x.pour(0, 99, 3, 0, 99)), 2);
        refused("8 unlike sorts", NestedCheckerRefusals::full, x -> is(x.pour(0, 0, 1, 0, 1)), 8);
        refused("8 unlike sorts, none", NestedCheckerRefusals::full, x -> is(x.pour(1, 0, 0, 0, 0)), 8);
        refused("8 unlike ahead of too few", NestedCheckerRefusals::full, x -> is(x.pour(0, 99, 1, 99, 99)), 8);
    }

    private static void pourTooFew() {
        Twins.Recipe three = NestedCheckerRefusals::fourTrays;
        Twins.taken("8 the last place", three, x -> is(x.pour(0, 2, 1, 2, 1)));
        Twins.taken("8 all", three, x -> is(x.pour(0, 0, 1, 0, 3)));
        Twins.taken("8 none, right behind the last place", three, x -> is(x.pour(0, 3, 1, 3, 0)));
        refused("8 from behind the last place", three, x -> is(x.pour(0, 3, 1, 0, 1)), 3);
        refused("8 to behind the last place", three, x -> is(x.pour(0, 0, 1, 3, 1)), 3);
        refused("8 one too many", three, x -> is(x.pour(0, 0, 1, 0, 4)), 3);
        refused("8 one too many from there on", three, x -> is(x.pour(0, 1, 1, 0, 3)), 3);
        refused("8 one too many to there on", three, x -> is(x.pour(0, 0, 1, 1, 3)), 3);
        refused("8 none, two behind the last place", three, x -> is(x.pour(0, 4, 1, 0, 0)), 3);
        refused("8 none, to two behind the last place", three, x -> is(x.pour(0, 0, 1, 4, 0)), 3);
        refused("8 far many", three, x -> is(x.pour(0, 0, 1, 0, MAX)), 3);
        refused("8 a sum that wraps around, from", three, x -> is(x.pour(0, 1, 1, 0, MAX)), 3);
        refused("8 a sum that wraps around, to", three, x -> is(x.pour(0, 0, 1, 1, MAX)), 3);
        refused("8 a place that wraps around, from", three, x -> is(x.pour(0, MAX, 1, 0, 1)), 3);
        refused("8 a place that wraps around, to", three, x -> is(x.pour(0, 0, 1, MAX, 1)), 3);
        refused("8 all wraps around", three, x -> is(x.pour(0, MAX, 0, MAX, MAX)), 3);
    }

    // ---- the text, 10 to 14

    private static void checker() {
        limits("10 n from 0 to what the tape has", NestedCheckerRefusals::full, (x, v) -> x.checker(v), 0, 20, 1);
        limits("10 an empty tape", NestedCheckerRefusals::bare, (x, v) -> x.checker(v), 0, 0, 1);
    }

    // The tape is empty then, and fault() tells: nothing else. bare() has no tape and that FAULT.
    private static void checkerWithAFault() {
        NestedChecker x = bare();
        Due.refused(x, "10 the same fault again", Due.tell(x, "call c;x"), 9);
        Twins.same("10 the old one stays, all else too", Twins.ledger(x), Twins.ledger(bare()));
        x = full();
        Due.refused(x, "10 the first 4 bytes", x.checker(4), 9);
        Due.is("10 the fault is told", x.fault(0) * 100 + x.fault(1), 204);
        Due.is("10 the tape is empty", x.feed(0, 0, 0, 0, 0), 20);
        Due.fine(x, "10 the old one stays", x.seen(2), 2);
    }

    private static void told() {
        limits("12 what", NestedCheckerRefusals::full, (x, v) -> x.told(v), 0, 3, 1);
    }

    private static void automaton() {
        limits("13 what", NestedCheckerRefusals::full, (x, v) -> x.automaton(0, v), 0, 4, 1);
        limits("13 AUTOMATA 0 and 1", NestedCheckerRefusals::full, (x, v) -> x.automaton(v, 0), 0, 1, 1);
        limits("13 one alone", with(rules(1)), (x, v) -> x.automaton(v, 0), 0, 0, 1);
    }

    private static void rule() {
        limits("14 AUTOMATA", NestedCheckerRefusals::full, (x, v) -> x.rule(v, 0, 0), 0, 1, 1);
        limits("14 k", NestedCheckerRefusals::full, (x, v) -> x.rule(0, v, 0), 0, 3, 1);
        limits("14 k of twenty", with(rules(20)), (x, v) -> x.rule(0, v, 0), 0, 19, 1);
        limits("14 what", NestedCheckerRefusals::full, (x, v) -> x.rule(0, 0, v), 0, 3, 1);
        refused("14 no RULES", with("call c;automaton 1 symbols 1;"), x -> x.rule(0, 0, 0), 1);
        refused("14 of an INNER LETTER", NestedCheckerRefusals::full, x -> x.rule(0, 3, 3), 6);
        refused("14 EMPTY", with("call c;ret r;automaton 1 symbols 1;rule r 0 0 empty;"), x -> x.rule(0, 0, 3), 6);
        refused("14 no such what ahead of none such", NestedCheckerRefusals::full, x -> x.rule(0, 3, 4), 1);
    }

    // ---- what is done, 15 to 19

    private static void add() {
        Twins.Recipe full = NestedCheckerRefusals::full;
        limits("15 AUTOMATA", full, (x, v) -> x.add(v, 2, 0, v == 0 ? 1 : 0, -1), 0, 1, 1);
        limits("15 from", full, (x, v) -> x.add(0, 0, v, 1, 0), 0, 1, 1);
        limits("15 to", full, (x, v) -> x.add(0, 0, 1, v, 0), 0, 1, 1);
        limits("15 LETTERS with a SYMBOL: no INNER one", full, (x, v) -> x.add(0, v, 1, 0, 0), 0, 1, 1);
        limits("15 LETTERS without: no CALL", full, (x, v) -> x.add(0, v, 1, 0, -1), 1, 2, 1);
        limits("15 LETTERS", with(WIDE), (x, v) -> x.add(0, v, 0, 0, v < 4 ? 0 : -1), 0, 5, 1);
        limits("15 SYMBOLS of a CALL", with(WIDE), (x, v) -> x.add(0, 0, 0, 0, v), 0, 2, 1);
        limits("15 SYMBOLS of a RETURN, or none", with(WIDE), (x, v) -> x.add(0, 2, 0, 0, v), -1, 2, 1);
        limits("15 none of an INNER LETTER", with(WIDE), (x, v) -> x.add(0, 4, 0, 0, v), -1, -1, 1);
        refused("15 it is there, of a CALL", full, x -> x.add(0, 0, 0, 0, 0), 7);
        refused("15 it is there, of a RETURN", full, x -> x.add(0, 1, 1, 1, 0), 7);
        refused("15 it is there, of an INNER one", full, x -> x.add(0, 2, 0, 0, -1), 7);
        Twins.taken("15 EMPTY is not what POPS", full, x -> x.add(0, 1, 0, 1, -1));
        Twins.taken("15 there in the other one alone", full, x -> x.add(1, 2, 0, 0, -1));
    }

    private static void addTooMany() {
        NestedChecker x = of(rules(19));
        Due.fine(x, "15 a 20th", x.add(0, 0, 2, 2, 2), 20);
        refused("15 a 21st", with(rules(20)), y -> y.add(0, 0, 2, 2, 2), 4);
        refused("15 a 21st ahead of it is there", with(rules(20)), y -> y.add(0, 0, 0, 0, 0), 4);
        refused("15 no such STATE ahead of a 21st", with(rules(20)), y -> y.add(0, 0, 0, 3, 0), 1);
        refused("15 no such LETTER ahead of a 21st", with(rules(20)), y -> y.add(0, 3, 0, 0, 0), 1);
        NestedChecker two = of(rules(20) + "automaton 1 symbols 1;");
        Due.fine(two, "15 each has its own 20", two.add(1, 0, 0, 0, 0), 1);
    }

    private static void drop() {
        limits("16 AUTOMATA", NestedCheckerRefusals::full, (x, v) -> x.drop(v, 0), 0, 1, 1);
        limits("16 k", NestedCheckerRefusals::full, (x, v) -> x.drop(0, v), 0, 3, 1);
        limits("16 k of twenty", with(rules(20)), (x, v) -> x.drop(0, v), 0, 19, 1);
        refused("16 no RULES", with("call c;automaton 1 symbols 1;"), x -> x.drop(0, 0), 1);
        NestedChecker x = of(rules(20));
        Due.fine(x, "16 the first of twenty", x.drop(0, 0), 19);
        Due.is("16 those behind it have the number ahead", x.rule(0, 0, 1) * 10 + x.rule(0, 18, 1), 11);
        Due.refused(x, "16 the last has no more its number", x.rule(0, 19, 0), 1);
        Due.fine(x, "16 the last of nineteen", x.drop(0, 18), 18);
    }

    private static void startAndAccept() {
        Twins.Recipe full = NestedCheckerRefusals::full;
        limits("17 AUTOMATA", full, (x, v) -> x.start(v, 0, false), 0, 1, 1);
        limits("18 AUTOMATA", full, (x, v) -> x.accept(v, 0, v == 0), 0, 1, 1);
        limits("17 STATES", full, (x, v) -> x.start(0, v, v == 1), 0, 1, 1);
        limits("18 STATES", full, (x, v) -> x.accept(0, v, v == 0), 0, 1, 1);
        limits("17 three STATES", with(WIDE), (x, v) -> x.start(0, v, v != 0), 0, 2, 1);
        limits("18 three STATES", with(WIDE), (x, v) -> x.accept(0, v, v != 2), 0, 2, 1);
        limits("17 one STATE", full, (x, v) -> x.start(1, v, false), 0, 0, 1);
        limits("18 one STATE", full, (x, v) -> x.accept(1, v, false), 0, 0, 1);
        refused("17 it is one", full, x -> x.start(0, 0, true), 7);
        refused("17 it is none", full, x -> x.start(0, 1, false), 7);
        refused("18 it is one", full, x -> x.accept(0, 1, true), 7);
        refused("18 it is none", full, x -> x.accept(0, 0, false), 7);
        NestedChecker x = of(WIDE);
        Due.fine(x, "17 all three", x.start(0, 2, true) + x.start(0, 1, true), 12);
        Due.fine(x, "18 all three", x.accept(0, 1, true) + x.accept(0, 0, true), 13);
    }

    private static void copy() {
        Twins.Recipe full = NestedCheckerRefusals::full;
        limits("19 AUTOMATA, the second 1", full, (x, v) -> is(x.copy(v, 1)), 0, 0, 1);
        limits("19 AUTOMATA, the second 0", full, (x, v) -> is(x.copy(v, 0)), 1, 1, 1);
        limits("19 AUTOMATA, the first 0", full, (x, v) -> is(x.copy(0, v)), 1, 1, 1);
        limits("19 AUTOMATA, the first 1", full, (x, v) -> is(x.copy(1, v)), 0, 0, 1);
        refused("19 one alone", with(rules(20)), x -> is(x.copy(0, 1)), 1);
        refused("19 one alone and itself", with(rules(20)), x -> is(x.copy(0, 0)), 1);
    }

    // ---- words, 20 to 24

    private interface OfWord {
        long of(NestedChecker x, int automaton, int tray, int n);
    }

    private static void words() {
        wordsOf("20", (x, a, t, n) -> x.takes(a, t, n));
        wordsOf("21", (x, a, t, n) -> x.ends(a, t, n));
        wordsOf("22", (x, a, t, n) -> is(x.runs(a, t, n)));
        // These have no AUTOMATON: what, or k, can't be in its place.
        wordsOf("23", (x, a, t, n) -> x.depth(t, n, a));
        wordsOf("24", (x, a, t, n) -> x.partner(t, n, a == 0 ? n - 1 : n));
        limits("20 AUTOMATA", NestedCheckerRefusals::full, (x, v) -> x.takes(v, 0, 5), 0, 1, 1);
        limits("21 AUTOMATA", NestedCheckerRefusals::full, (x, v) -> x.ends(v, 0, 5), 0, 1, 1);
        limits("22 AUTOMATA", NestedCheckerRefusals::full, (x, v) -> is(x.runs(v, 0, 5)), 0, 1, 1);
        Twins.asked("20 of no LETTERS", NestedCheckerRefusals::full, x -> x.takes(1, 2, 0), 1);
        Twins.asked("21 of no LETTERS", NestedCheckerRefusals::full, x -> x.ends(0, 2, 0), 1);
        Twins.taken("22 of no LETTERS", NestedCheckerRefusals::full, x -> is(x.runs(0, 2, 0)));
        Twins.asked("23 of no LETTERS", NestedCheckerRefusals::full, x -> x.depth(2, 0, 2), 0);
    }

    /** Twenty-two LETTERS c r c r .. in TRAY 0, of which twenty can be a word; two in the others. */
    private static NestedChecker longWord() {
        NestedChecker x = full();
        for (int t = 0; t < 4; t++) {
            int many = t == 0 ? 22 : 2;
            x.tray(t, 3 - t, many);
            for (int i = 1; i < many; i += 2) {
                x.write(t, i, 1);
            }
        }
        return x;
    }

    private static void wordsOf(String promise, OfWord call) {
        Twins.Recipe word = NestedCheckerRefusals::longWord;
        Twins.Recipe full = NestedCheckerRefusals::full;
        limits(promise + " TRAYS 0 to 3", word, (x, v) -> call.of(x, 0, v, 2), 0, 3, 1);
        Twins.taken(promise + " n 20", word, x -> call.of(x, 0, 0, 20));
        Twins.taken(promise + " n as many as the TRAY has", word, x -> call.of(x, 0, 1, 2));
        refused(promise + " n one more than the TRAY has", word, x -> call.of(x, 0, 1, 3), 3);
        refused(promise + " n 20, too few", word, x -> call.of(x, 0, 1, 20), 3);
        for (int n : new int[] {MIN, -1, 21, 22, MAX}) {
            refused(promise + " n " + n, word, x -> call.of(x, 0, 0, n), 1);
            refused(promise + " n ahead of MISSING " + n, full, x -> call.of(x, 0, 3, n), 1);
            refused(promise + " n ahead of too few " + n, full, x -> call.of(x, 0, 2, n), 1);
        }
        refused(promise + " MISSING", full, x -> call.of(x, 0, 3, 1), 2);
        refused(promise + " MISSING ahead of too few", full, x -> call.of(x, 0, 3, 20), 2);
        refused(promise + " no such number ahead of MISSING", full, x -> call.of(x, 9, 3, 1), 1);
        refused(promise + " no such LETTER", full, x -> call.of(x, 0, 2, 2), 5);
        refused(promise + " too few ahead of no such LETTER", full, x -> call.of(x, 0, 2, 3), 3);
        refused(promise + " no such number ahead of no such LETTER", full, x -> call.of(x, 9, 2, 2), 1);
        for (long v : new long[] {-1, 3, Long.MIN_VALUE, Long.MAX_VALUE, 1L << 32, 1L << 32 | 1}) {
            Twins.Recipe odd = () -> {
                NestedChecker x = longWord();
                x.write(0, 19, v);
                return x;
            };
            refused(promise + " the last is no LETTER: " + v, odd, x -> call.of(x, 0, 0, 20), 5);
            Twins.taken(promise + " no LETTER behind the word: " + v, odd, x -> call.of(x, 0, 0, 18));
        }
    }

    private static void depthAndPartner() {
        Twins.Recipe full = NestedCheckerRefusals::full;
        limits("23 what", full, (x, v) -> x.depth(0, 5, v), 0, 2, 1);
        limits("24 places", NestedCheckerRefusals::longWord, (x, v) -> x.partner(0, 20, v), 0, 19, 1);
        limits("24 places of a shorter word", NestedCheckerRefusals::longWord, (x, v) -> x.partner(0, 2, v), 0, 1, 1);
        refused("24 of no LETTERS there is no place", full, x -> x.partner(2, 0, 0), 1);
        refused("24 none of an INNER LETTER", full, x -> x.partner(0, 5, 1), 6);
        refused("24 none of a PENDING CALL", full, x -> x.partner(0, 3, 0), 6);
        refused("24 none of a LOOSE RETURN", () -> {
            NestedChecker x = full();
            x.write(0, 0, 1);
            return x;
        }, x -> x.partner(0, 5, 0), 6);
    }

    // ---- the TABLE, 25 to 28

    private static void table() {
        limits("25 AUTOMATA", NestedCheckerRefusals::full, (x, v) -> x.table(v), 0, 1, 1);
        limits("25 one alone", with("call c;automaton 1 symbols 1;"), (x, v) -> x.table(v), 0, 0, 1);
    }

    private static void summary() {
        Twins.Recipe full = NestedCheckerRefusals::full;
        limits("26 AUTOMATA", full, (x, v) -> x.summary(v, 0, 0), 0, 1, 1);
        limits("26 k", full, (x, v) -> x.summary(1, v, 0), 0, 2, 6);
        limits("26 what", full, (x, v) -> x.summary(1, 0, v), 0, 2, 1);
        refused("26 what ahead of no such SUMMARY", full, x -> x.summary(1, 3, 3), 1);
        refused("26 AUTOMATON ahead of no such SUMMARY", full, x -> x.summary(2, -1, 0), 1);
    }

    private static void next() {
        Twins.Recipe full = NestedCheckerRefusals::full;
        limits("27 AUTOMATA", full, (x, v) -> x.next(v, 0, 0), 0, 1, 1);
        limits("27 k", full, (x, v) -> x.next(1, v, 0), 0, 2, 6);
        limits("27 LETTERS", full, (x, v) -> x.next(1, 0, v), 0, 2, 1);
        limits("27 six LETTERS", with(WIDE), (x, v) -> x.next(1, 0, v), 0, 5, 1);
        refused("27 LETTER ahead of no such SUMMARY", full, x -> x.next(1, 3, 3), 1);
        refused("27 no LETTERS", with("automaton 1 symbols 1;"), x -> x.next(0, 0, 0), 1);
    }

    private static void nextBack() {
        Twins.Recipe full = NestedCheckerRefusals::full;
        limits("28 AUTOMATA", full, (x, v) -> x.nextBack(v, 0, 1, 0, 0), 0, 1, 1);
        limits("28 k", full, (x, v) -> x.nextBack(1, v, 1, 0, 0), 0, 2, 6);
        limits("28 j", full, (x, v) -> x.nextBack(1, 0, 1, v, 0), 0, 2, 6);
        limits("28 RETURNS", with(WIDE), (x, v) -> x.nextBack(1, 0, v, 0, 0), 2, 3, 1);
        limits("28 CALLS", with(WIDE), (x, v) -> x.nextBack(1, 0, 2, 0, v), 0, 1, 1);
        for (int letter : new int[] {0, 4, 5}) {
            refused("28 not a RETURN " + letter, with(WIDE), x -> x.nextBack(1, 0, letter, 0, 0), 1);
        }
        for (int call : new int[] {2, 4, 5}) {
            refused("28 not a CALL " + call, with(WIDE), x -> x.nextBack(1, 0, 2, 0, call), 1);
        }
        refused("28 not a RETURN ahead of no such SUMMARY", full, x -> x.nextBack(1, 9, 0, 9, 0), 1);
        refused("28 not a CALL ahead of no such SUMMARY", full, x -> x.nextBack(1, 9, 1, 9, 2), 1);
    }

    // ---- the shortest words, 29 to 40

    private static void well() {
        Twins.Recipe full = NestedCheckerRefusals::full;
        limits("29 AUTOMATA", full, (x, v) -> x.well(v, 0, 0), 0, 1, 1);
        limits("29 STATES", full, (x, v) -> x.well(0, v, 1), 0, 1, 1);
        limits("29 other STATES", full, (x, v) -> x.well(0, 0, v), 0, 1, 1);
        limits("29 STATES of the other one", full, (x, v) -> x.well(1, v, v), 0, 0, 1);
        refused("29 no such word", full, x -> x.well(0, 1, 0), 6);
    }

    private static void reaches() {
        limits("30 AUTOMATA", NestedCheckerRefusals::full, (x, v) -> x.reaches(v), 0, 1, 1);
    }

    private static Twins.Recipe nothingTaken() {
        return () -> {
            NestedChecker x = full();
            x.accept(0, 1, false);
            x.accept(1, 0, false);
            return x;
        };
    }

    private static void shortest() {
        Twins.Recipe full = NestedCheckerRefusals::full;
        limits("31 AUTOMATA", full, (x, v) -> x.shortest(v), 0, 1, 1);
        limits("32 AUTOMATA", full, (x, v) -> x.shortestAt(v == 1 ? 0 : v, 0), 0, 1, 1);
        refused("31 none is", nothingTaken(), x -> x.shortest(0), 6);
        refused("32 none is", nothingTaken(), x -> x.shortestAt(0, 0), 6);
        Twins.asked("32 the last LETTER", full, x -> x.shortestAt(0, 1), 1);
        places("32", 2, x -> x, (x, k) -> x.shortestAt(0, k));
        refused("32 the word of none has no LETTER", full, x -> x.shortestAt(1, 0), 6);
        refused("32 k below 0 ahead of none", nothingTaken(), x -> x.shortestAt(0, -1), 1);
        refused("32 AUTOMATON ahead of no such", full, x -> x.shortestAt(2, 99), 1);
    }

    private interface Change {
        NestedChecker of(NestedChecker x);
    }

    /** Of a word of so many LETTERS: the last, the first that there is none of, below 0, far away. */
    private static void places(String promise, int length, Change change, Twins.CallBy at) {
        Twins.Recipe recipe = () -> change.of(full());
        Twins.taken(promise + " the first LETTER", recipe, x -> at.of(x, 0));
        Twins.taken(promise + " the last LETTER", recipe, x -> at.of(x, length - 1));
        refused(promise + " behind the last LETTER", recipe, x -> at.of(x, length), 6);
        refused(promise + " far behind", recipe, x -> at.of(x, MAX), 6);
        refused(promise + " below 0", recipe, x -> at.of(x, -1), 1);
        refused(promise + " far below", recipe, x -> at.of(x, MIN), 1);
    }

    private interface OfTwo {
        long of(NestedChecker x, int automaton, int other);
    }

    /** No such AUTOMATON, as the first or the second; one and itself. */
    private static void twos(String promise, OfTwo call) {
        Twins.Recipe full = NestedCheckerRefusals::full;
        for (int v : new int[] {MIN, -1, 2, MAX}) {
            refused(promise + " the first can't be " + v, full, x -> call.of(x, v, 0), 1);
            refused(promise + " the first can't be " + v, full, x -> call.of(x, v, 1), 1);
            refused(promise + " the second can't be " + v, full, x -> call.of(x, 0, v), 1);
            refused(promise + " the second can't be " + v, full, x -> call.of(x, 1, v), 1);
            refused(promise + " neither can be " + v, full, x -> call.of(x, v, v), 1);
        }
        refused(promise + " one and itself", full, x -> call.of(x, 0, 0), 1);
        refused(promise + " the other and itself", full, x -> call.of(x, 1, 1), 1);
        refused(promise + " one alone", with("call c;automaton 1 symbols 1;"), x -> call.of(x, 0, 1), 1);
    }

    private static void both() {
        twos("33", (x, a, b) -> x.both(a, b));
        twos("34", (x, a, b) -> x.bothAt(a, b, 0));
        Twins.asked("33", NestedCheckerRefusals::full, x -> x.both(1, 0), 2);
        refused("33 there is none", nothingTaken(), x -> x.both(0, 1), 6);
        refused("34 there is none", nothingTaken(), x -> x.bothAt(0, 1, 0), 6);
        places("34", 2, x -> x, (x, k) -> x.bothAt(0, 1, k));
        refused("34 k below 0 ahead of none", nothingTaken(), x -> x.bothAt(0, 1, -1), 1);
        refused("34 itself ahead of no such", NestedCheckerRefusals::full, x -> x.bothAt(1, 1, 99), 1);
    }

    private static void parting() {
        twos("35", (x, a, b) -> x.parting(a, b));
        twos("36", (x, a, b) -> x.partingAt(a, b, 0));
        Twins.asked("35", NestedCheckerRefusals::full, x -> x.parting(0, 1), 3);
        refused("35 there is none", nothingTaken(), x -> x.parting(0, 1), 6);
        refused("36 there is none", nothingTaken(), x -> x.partingAt(0, 1, 0), 6);
        places("36", 3, x -> x, (x, k) -> x.partingAt(0, 1, k));
        refused("36 the word of none has no LETTER", NestedCheckerRefusals::full, x -> x.partingAt(1, 0, 0), 6);
        refused("36 k below 0 ahead of none", nothingTaken(), x -> x.partingAt(0, 1, -1), 1);
    }

    private static void missing() {
        limits("37 AUTOMATA", NestedCheckerRefusals::full, (x, v) -> x.missing(v), 0, 1, 1);
        refused("38 no such AUTOMATON", NestedCheckerRefusals::full, x -> x.missingAt(2, 0), 1);
        refused("38 no such AUTOMATON", NestedCheckerRefusals::full, x -> x.missingAt(-1, 0), 1);
        places("38", 1, x -> x, (x, k) -> x.missingAt(1, k));
        refused("38 the word of none has no LETTER", NestedCheckerRefusals::full, x -> x.missingAt(0, 0), 6);
        refused("37 there is none", with(WIDE), x -> x.missing(1), 6);
        refused("38 there is none", with(WIDE), x -> x.missingAt(1, 0), 6);
        refused("38 k below 0 ahead of none", with(WIDE), x -> x.missingAt(1, -1), 1);
    }

    private static void includesAndEqual() {
        twos("39", (x, a, b) -> x.includes(a, b));
        twos("40", (x, a, b) -> x.equal(a, b));
        Twins.asked("39", NestedCheckerRefusals::full, x -> x.includes(0, 1), 0);
        Twins.asked("39 of none", nothingTaken(), x -> x.includes(0, 1), 1);
        Twins.asked("40", NestedCheckerRefusals::full, x -> x.equal(0, 1), 0);
        Twins.asked("40 of none", nothingTaken(), x -> x.equal(0, 1), 1);
    }

    // Seven LETTERS: none of them is told; behind the seventh there is none.
    private static void moreThanSix() {
        Twins.Recipe seven = with(SEVEN);
        Twins.asked("31 seven", seven, x -> x.shortest(0), 7);
        Twins.asked("35 seven", seven, x -> x.parting(0, 1), 7);
        for (int k : new int[] {0, 5, 6}) {
            refused("32 more than 6 at " + k, seven, x -> x.shortestAt(0, k), 7);
            refused("36 more than 6 at " + k, seven, x -> x.partingAt(0, 1, k), 7);
        }
        for (int k : new int[] {7, MAX}) {
            refused("32 no such ahead of more than 6 at " + k, seven, x -> x.shortestAt(0, k), 6);
            refused("36 no such ahead of more than 6 at " + k, seven, x -> x.partingAt(0, 1, k), 6);
        }
        refused("32 k below 0 ahead of more than 6", seven, x -> x.shortestAt(0, -1), 1);
        refused("36 k below 0 ahead of more than 6", seven, x -> x.partingAt(0, 1, -1), 1);
        Twins.Recipe bothSeven = with(SEVEN + "accept 0;");
        Twins.asked("33 seven", bothSeven, x -> x.both(1, 0), 7);
        refused("34 more than 6", bothSeven, x -> x.bothAt(0, 1, 6), 7);
        refused("34 no such ahead of more than 6", bothSeven, x -> x.bothAt(0, 1, 7), 6);
        refused("34 k below 0 ahead of more than 6", bothSeven, x -> x.bothAt(0, 1, -1), 1);
        Twins.Recipe missingSeven = with("call c;ret r;automaton 3 symbols 2;start 0;accept 0 1;"
                + "rule c 0 2 push 1;rule r 0 1 pop 0;rule r 0 0 empty;rule c 0 0 push 0;"
                + "rule r 2 0 pop 0;rule r 0 0 pop 1;rule c 0 2 push 0;rule r 2 2 pop 1;");
        Twins.asked("37 seven", missingSeven, x -> x.missing(0), 7);
        refused("38 more than 6", missingSeven, x -> x.missingAt(0, 6), 7);
        refused("38 no such ahead of more than 6", missingSeven, x -> x.missingAt(0, 7), 6);
        refused("38 k below 0 ahead of more than 6", missingSeven, x -> x.missingAt(0, -1), 1);
    }

    private static void tableThatCannotBe() {
        Twins.Recipe wide = with(TOO_WIDE);
        refused("25 it can't be", wide, x -> x.table(0), 7);
        Twins.taken("25 the other one's can", wide, x -> x.table(1));
        for (int k : new int[] {MIN, -1, 0, 40, MAX}) {
            refused("26 it can't be, ahead of no such " + k, wide, x -> x.summary(0, k, 0), 7);
            refused("27 it can't be, ahead of no such " + k, wide, x -> x.next(0, k, 0), 7);
            refused("28 it can't be, ahead of no such " + k, wide, x -> x.nextBack(0, k, 1, 0, 0), 7);
            refused("28 it can't be, ahead of no such " + k, wide, x -> x.nextBack(0, 0, 1, k, 0), 7);
            refused("36 it can't be, k " + k, wide, x -> x.partingAt(1, 0, k), k < 0 ? 1 : 7);
            refused("38 it can't be, k " + k, wide, x -> x.missingAt(0, k), k < 0 ? 1 : 7);
        }
        refused("26 what ahead of it can't be", wide, x -> x.summary(0, 0, 3), 1);
        refused("27 LETTER ahead of it can't be", wide, x -> x.next(0, 0, 4), 1);
        refused("28 not a RETURN ahead of it can't be", wide, x -> x.nextBack(0, 0, 2, 0, 0), 1);
        refused("28 not a CALL ahead of it can't be", wide, x -> x.nextBack(0, 0, 1, 0, 1), 1);
        refused("35 it can't be", wide, x -> x.parting(1, 0), 7);
        refused("35 itself ahead of it can't be", wide, x -> x.parting(0, 0), 1);
        refused("36 itself ahead of it can't be", wide, x -> x.partingAt(0, 0, 0), 1);
        refused("37 it can't be", wide, x -> x.missing(0), 7);
        refused("39 it can't be", wide, x -> x.includes(1, 0), 7);
        refused("39 itself ahead of it can't be", wide, x -> x.includes(0, 0), 1);
        refused("40 the first one's can't be", wide, x -> x.equal(0, 1), 7);
        refused("40 the second one's can't be", wide, x -> x.equal(1, 0), 7);
        refused("40 itself ahead of it can't be", wide, x -> x.equal(0, 0), 1);
        Twins.taken("35 the first one's is not asked for", wide, x -> x.parting(0, 1));
        Twins.taken("36 the first one's is not asked for", wide, x -> x.partingAt(0, 1, 0));
        Twins.taken("39 the first one's is not asked for", wide, x -> x.includes(0, 1));
        Twins.taken("31 no TABLE is asked for", wide, x -> x.shortest(0));
        Twins.taken("33 no TABLE is asked for", wide, x -> x.both(0, 1));
        Twins.taken("29 no TABLE is asked for", wide, x -> x.well(0, 0, 1));
    }

    // ---- how many words, 41 to 45

    private static void countAndShare() {
        Twins.Recipe full = NestedCheckerRefusals::full;
        Twins.Recipe none = with("automaton 1 symbols 1;start 0;accept 0;");
        limits("41 AUTOMATA", full, (x, v) -> x.count(v, 2), 0, 1, 1);
        limits("41 n 0 to 6", full, (x, v) -> x.count(0, v), 0, 6, 1);
        limits("42 AUTOMATA", full, (x, v) -> is(x.share(v, 2)), 0, 1, 1);
        limits("42 n 0 to 6", full, (x, v) -> is(x.share(0, v)), 0, 6, 1);
        Twins.asked("41 no LETTERS, n 6", none, x -> x.count(0, 6), 0);
        Twins.asked("41 no LETTERS, n 0", none, x -> x.count(0, 0), 1);
        Twins.taken("42 no LETTERS, n 0", none, x -> is(x.share(0, 0)));
        refused("42 no LETTERS, n 1", none, x -> is(x.share(0, 1)), 6);
        refused("42 no LETTERS, n 6", none, x -> is(x.share(0, 6)), 6);
        refused("42 n ahead of no such words", none, x -> is(x.share(0, 7)), 1);
        refused("42 AUTOMATON ahead of no such words", none, x -> is(x.share(1, 1)), 1);
    }

    private static void lastAt() {
        Twins.Recipe full = NestedCheckerRefusals::full;
        limits("43 AUTOMATA", full, (x, v) -> x.lastAt(v, 2, 0), 0, 1, 1);
        limits("43 n 1 to 6", full, (x, v) -> x.lastAt(1, v, 0), 1, 6, 1);
        limits("43 k below n", full, (x, v) -> x.lastAt(1, 6, v), 0, 5, 1);
        limits("43 k below n of 1", full, (x, v) -> x.lastAt(1, 1, v), 0, 0, 1);
        refused("43 none is", full, x -> x.lastAt(0, 1, 0), 6);
        refused("43 none is of no LETTERS", with("automaton 1 symbols 1;start 0;accept 0;"), x -> x.lastAt(0, 1, 0), 6);
        refused("43 k ahead of none is", full, x -> x.lastAt(0, 1, 1), 1);
        refused("43 n ahead of none is", nothingTaken(), x -> x.lastAt(0, 7, 0), 1);
    }

    private static void sample() {
        Twins.Recipe full = NestedCheckerRefusals::full;
        limits("44 TRAYS 0 to 3", NestedCheckerRefusals::fourTrays, (x, v) -> is(x.sample(v, 3, 7)), 0, 3, 1);
        limits("44 n 0 to 20", full, (x, v) -> is(x.sample(1, v, 7)), 0, 20, 1);
        limits("44 seeds 0 to 9,999", full, (x, v) -> is(x.sample(0, 5, v)), 0, 9999, 1);
        Twins.taken("44 as many as the TRAY has", full, x -> is(x.sample(2, 2, 7)));
        refused("44 one more than the TRAY has", full, x -> is(x.sample(2, 3, 7)), 3);
        refused("44 n ahead of too few", full, x -> is(x.sample(2, 21, 7)), 1);
        refused("44 MISSING", full, x -> is(x.sample(3, 0, 7)), 2);
        refused("44 MISSING ahead of too few", full, x -> is(x.sample(3, 20, 7)), 2);
        refused("44 seed ahead of MISSING", full, x -> is(x.sample(3, 0, 10000)), 1);
        Twins.Recipe none = () -> {
            NestedChecker x = full();
            x.checker(0);
            return x;
        };
        Twins.taken("44 no LETTERS, n 0", none, x -> is(x.sample(0, 0, 7)));
        refused("44 no LETTERS, n 1", none, x -> is(x.sample(0, 1, 7)), 6);
        refused("44 too few ahead of no LETTERS", none, x -> is(x.sample(2, 3, 7)), 3);
        refused("44 MISSING ahead of no LETTERS", none, x -> is(x.sample(3, 1, 7)), 2);
        refused("44 n ahead of no LETTERS", none, x -> is(x.sample(1, 21, 7)), 1);
    }

    private static void chance() {
        Twins.Recipe full = NestedCheckerRefusals::full;
        limits("45 AUTOMATA", full, (x, v) -> is(x.chance(v, 2, 3, 7)), 0, 1, 1);
        limits("45 n 0 to 20", full, (x, v) -> is(x.chance(0, v, 3, 7)), 0, 20, 1);
        limits("45 1 to 50 words", full, (x, v) -> is(x.chance(0, 2, v, 7)), 1, 50, 1);
        limits("45 seeds 0 to 9,999", full, (x, v) -> is(x.chance(0, 2, 3, v)), 0, 9999, 1);
        Twins.Recipe none = with("automaton 1 symbols 1;start 0;accept 0;");
        Twins.taken("45 no LETTERS, n 0", none, x -> is(x.chance(0, 0, 50, 7)));
        refused("45 no LETTERS, n 1", none, x -> is(x.chance(0, 1, 1, 7)), 6);
        refused("45 no LETTERS, n 20", none, x -> is(x.chance(0, 20, 50, 7)), 6);
        refused("45 n ahead of no LETTERS", none, x -> is(x.chance(0, 21, 1, 7)), 1);
        refused("45 many ahead of no LETTERS", none, x -> is(x.chance(0, 1, 0, 7)), 1);
        refused("45 seed ahead of no LETTERS", none, x -> is(x.chance(0, 1, 1, -1)), 1);
    }

    // ---- the MONITOR, 46 to 49

    private static void watch() {
        limits("46 AUTOMATA", NestedCheckerRefusals::full, (x, v) -> x.watch(v), 0, 1, 1);
        limits("46 one alone", with("call c;automaton 1 symbols 1;"), (x, v) -> x.watch(v), 0, 0, 1);
    }

    private static Twins.Recipe pending(int many) {
        return () -> {
            NestedChecker x = of("call c;call d;ret r;inner i;automaton 1 symbols 1;start 0;accept 0;"
                    + "rule c 0 0 push 0;rule d 0 0 push 0;rule r 0 0 pop 0;rule i 0 0;");
            x.watch(0);
            x.mark();
            for (int i = 0; i < many; i++) {
                x.see(i % 2);
            }
            return x;
        };
    }

    private static void see() {
        limits("47 LETTERS", NestedCheckerRefusals::full, (x, v) -> x.see(v), 0, 2, 1);
        limits("47 six LETTERS", with(WIDE), (x, v) -> x.see(v), 0, 5, 1);
        Twins.Recipe unwatched = () -> of(BASE);
        refused("47 it watches none", unwatched, x -> x.see(0), 6);
        refused("47 LETTER ahead of it watches none", unwatched, x -> x.see(3), 1);
        Twins.taken("47 a 30th PENDING", pending(29), x -> x.see(0));
        refused("47 a 31st PENDING", pending(30), x -> x.see(0), 4);
        refused("47 a 31st PENDING by the other CALL", pending(30), x -> x.see(1), 4);
        refused("47 LETTER ahead of a 31st", pending(30), x -> x.see(4), 1);
        Twins.taken("47 a RETURN at 30 PENDING", pending(30), x -> x.see(2));
        Twins.taken("47 an INNER LETTER at 30 PENDING", pending(30), x -> x.see(3));
        Twins.taken("47 a CALL behind that RETURN", pending(30), x -> x.see(2) + x.see(0));
    }

    private static void seenAndDoomed() {
        limits("48 what", NestedCheckerRefusals::full, (x, v) -> x.seen(v), 0, 4, 1);
        Twins.Recipe unwatched = () -> of(BASE);
        refused("48 it watches none", unwatched, x -> x.seen(0), 6);
        refused("48 what ahead of it watches none", unwatched, x -> x.seen(5), 1);
        refused("48 what ahead of it watches none", unwatched, x -> x.seen(-1), 1);
        refused("49 it watches none", unwatched, x -> x.doomed(), 6);
        Twins.asked("48 how many are PENDING", pending(30), x -> x.seen(2), 30);
        Twins.asked("48 how many it saw", pending(30), x -> x.seen(1), 30);
        Twins.asked("49", pending(30), x -> x.doomed(), 0);
    }

    // ---- MARKS, 50 and 51

    private static void marks() {
        Twins.Recipe three = () -> {
            NestedChecker x = full();
            x.see(1);
            x.mark();
            x.drop(0, 3);
            return x;
        };
        refused("50 a fourth MARK", three, x -> x.mark(), 4);
        Twins.taken("50 a third MARK", NestedCheckerRefusals::full, x -> x.mark());
        refused("51 no MARKS", () -> of(BASE), x -> x.undo(), 6);
        NestedChecker x = three.make();
        Due.fine(x, "51 two left", x.undo(), 2);
        Due.fine(x, "51 one left", x.undo(), 1);
        Due.fine(x, "51 none left", x.undo(), 0);
        Due.refused(x, "51 no MARKS", x.undo(), 6);
    }

    // ---- without LETTERS and AUTOMATA every number of one can't be

    private static void nothingTold() {
        Twins.Recipe none = () -> {
            NestedChecker x = new NestedChecker();
            Due.word(x, 0, 0, 0);
            x.mark();
            return x;
        };
        Twins.Call[] ones = {x -> x.automaton(0, 0), x -> x.rule(0, 0, 0), x -> x.add(0, 0, 0, 0, 0), x -> x.drop(0, 0),
            x -> x.start(0, 0, true), x -> x.accept(0, 0, true), x -> is(x.copy(0, 1)), x -> x.takes(0, 0, 0),
            x -> x.ends(0, 0, 0), x -> is(x.runs(0, 0, 0)), x -> x.table(0), x -> x.summary(0, 0, 0), x -> x.next(0, 0, 0),
            x -> x.nextBack(0, 0, 0, 0, 0), x -> x.well(0, 0, 0), x -> x.reaches(0), x -> x.shortest(0),
            x -> x.shortestAt(0, 0), x -> x.both(0, 1), x -> x.bothAt(0, 1, 0), x -> x.parting(0, 1),
            x -> x.partingAt(0, 1, 0), x -> x.missing(0), x -> x.missingAt(0, 0), x -> x.includes(0, 1), x -> x.equal(0, 1),
            x -> x.count(0, 0), x -> is(x.share(0, 0)), x -> x.lastAt(0, 1, 0), x -> is(x.chance(0, 0, 1, 0)),
            x -> x.watch(0), x -> x.see(0)};
        for (int i = 0; i < ones.length; i++) {
            refused("1 nothing is told, call " + i, none, ones[i], 1);
        }
        Twins.asked("23 the word of no LETTERS", none, x -> x.depth(0, 0, 0), 0);
        refused("23 no such LETTER", none, x -> x.depth(0, 1, 0), 5);
        refused("24 no such LETTER", none, x -> x.partner(0, 1, 0), 5);
    }
}

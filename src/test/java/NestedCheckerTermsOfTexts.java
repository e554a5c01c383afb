import java.util.List;

/**
 * What the document's Terms name of TRAYS and TEXTS (==== 1), a test for each sentence with a limit:
 * the last that is taken, the first that is not, the empty one, the full one, what wraps around.
 */
public final class NestedCheckerTermsOfTexts {
    private static final String LETTERS = "call c;ret r;inner i;";
    private static final String HEAD = LETTERS + "automaton 2 symbols 2;";
    private static final int H = HEAD.length();
    private static final String[] KEYS = {"call", "ret", "inner", "automaton", "symbols", "start", "accept", "rule",
        "push", "pop", "empty"};

    public static void main(String[] args) {
        traysAreMissingAtFirst();
        numbersAreCut();
        traysOfNoneAndOfSixty();
        pouringAsTheyWere();
        tapeOf900();
        feedingTheHighestFirst();
        textOf900();
        everyByteFirst();
        everyByteWithin();
        tokensAsLongAsTheyGo();
        digitsOfNumbers();
        lettersOfNames();
        keysAreNoNames();
        almostKeysAreNames();
        oneNameOnce();
        twoOfEachSort();
        lettersAheadOfAutomata();
        twoAutomata();
        statesAndSymbols();
        whatIsToldBehindIsOfIt();
        noPartsAndNoNumbers();
        statesOnce();
        twentyRules();
        rulesOnce();
        stackOfRules();
        endOfTheText();
        firstAlongTheText();
        leastKindOfOneToken();
        takenInPlace();
        faultsAreToldOf();
        Due.end("NestedCheckerTermsOfTexts");
    }

    private static NestedChecker of(String text) {
        NestedChecker x = new NestedChecker();
        Due.is("checker of " + text, Due.tell(x, text) >= 0, true);
        return x;
    }

    /** The text is taken, with so many AUTOMATA. */
    private static NestedChecker good(String text, int automata) {
        NestedChecker x = new NestedChecker();
        Due.fine(x, "taken: " + text, Due.tell(x, text), automata);
        Due.is("no FAULT: " + text, x.fault(0), 0);
        Due.is("no place: " + text, x.fault(1), -1);
        return x;
    }

    private static void bad(String text, int kind, int place) {
        NestedChecker x = new NestedChecker();
        Due.refused(x, "not taken: " + text, Due.tell(x, text), 9);
        Due.is("kind of: " + text, x.fault(0), kind);
        Due.is("place of: " + text, x.fault(1), place);
        Due.is("nothing is there: " + text, x.told(0) + x.told(1) + x.told(2) + x.told(3), 0);
    }

    private static String times(String part, int n) {
        return part.repeat(n);
    }

    // ---- TRAYS

    private static void traysAreMissingAtFirst() {
        NestedChecker x = new NestedChecker();
        for (int t = 0; t < 4; t++) {
            Due.refused(x, "1 TRAY " + t + " is MISSING", x.read(t, 0), 2);
            Due.fine(x, "1 TRAY " + t + " of none", x.tray(t, 0, 0));
            Due.refused(x, "1 TRAY " + t + " is not MISSING", x.read(t, 0), 3);
        }
    }

    private static void numbersAreCut() {
        for (int sort = 0; sort < 3; sort++) {
            int bits = 8 << sort;
            long most = (1L << bits - 1) - 1;
            long all = 1L << bits;
            long[][] cuts = {{most, most}, {most + 1, -most - 1}, {all - 1, -1}, {all, 0}, {all + 1, 1}, {-1, -1},
                {-most - 1, -most - 1}, {-most - 2, most}, {-all, 0}, {Long.MAX_VALUE, -1}, {Long.MIN_VALUE, 0}};
            for (long[] cut : cuts) {
                cutOf(sort, cut[0], cut[1]);
            }
        }
        for (long v : new long[] {0, -1, 1L << 32, Long.MAX_VALUE, Long.MIN_VALUE}) {
            cutOf(3, v, v);
        }
    }

    private static void cutOf(int sort, long v, long cut) {
        NestedChecker x = new NestedChecker();
        x.tray(2, sort, 3);
        Due.fine(x, "6 write " + v + " in sort " + sort, x.write(2, 1, v));
        Due.fine(x, "6 " + v + " in sort " + sort, x.read(2, 1), cut);
        Due.fine(x, "6 beside it", x.read(2, 0) | x.read(2, 2), 0);
    }

    private static void traysOfNoneAndOfSixty() {
        NestedChecker x = new NestedChecker();
        for (int t = 0; t < 4; t++) {
            x.tray(t, t, 60);
            x.write(t, 0, 10 + t);
            x.write(t, 59, 20 + t);
        }
        for (int t = 0; t < 4; t++) {
            Due.fine(x, "5 each has its own first", x.read(t, 0), 10 + t);
            Due.fine(x, "5 each has its own last", x.read(t, 59), 20 + t);
            Due.refused(x, "5 a 61st", x.read(t, 60), 3);
        }
        x.tray(1, 3, 60);
        Due.fine(x, "5 anew, the first is 0", x.read(1, 0), 0);
        Due.fine(x, "5 anew, the last is 0", x.read(1, 59), 0);
        x.write(1, 59, Long.MIN_VALUE);
        Due.fine(x, "5 of another sort", x.read(1, 59), Long.MIN_VALUE);
        Due.fine(x, "5 the others stay", x.read(0, 59) + x.read(2, 0), 32);
        x.tray(1, 3, 1);
        Due.refused(x, "5 fewer", x.read(1, 1), 3);
        x.tray(1, 3, 2);
        Due.fine(x, "5 more again are 0", x.read(1, 1), 0);
    }

    private static void pouringAsTheyWere() {
        NestedChecker x = new NestedChecker();
        x.tray(0, 3, 60);
        x.tray(3, 3, 60);
        for (int i = 0; i < 60; i++) {
            x.write(0, i, i - 30L);
        }
        Due.fine(x, "8 all sixty", x.pour(0, 0, 3, 0, 60));
        for (int i = 0; i < 60; i++) {
            Due.fine(x, "8 all sixty", x.read(3, i), i - 30L);
        }
        Due.fine(x, "8 onto itself", x.pour(0, 0, 0, 0, 60));
        Due.fine(x, "8 its own, one on", x.pour(0, 0, 0, 1, 59));
        Due.fine(x, "8 its own, one back", x.pour(3, 1, 3, 0, 59));
        for (int i = 0; i < 60; i++) {
            Due.fine(x, "8 as they were, one on", x.read(0, i), Math.max(0, i - 1) - 30L);
            Due.fine(x, "8 as they were, one back", x.read(3, i), Math.min(59, i + 1) - 30L);
        }
    }

    // ---- the tape

    private static void tapeOf900() {
        NestedChecker x = new NestedChecker();
        int blanks = 0x20202020;
        for (int i = 1; i <= 45; i++) {
            Due.is("9 feed " + i, x.feed(blanks, blanks, blanks, blanks, blanks), 20 * i);
        }
        x.told(9);
        Due.is("9 there would be more than 900", x.feed(0, 0, 0, 0, 0), -1);
        Due.is("9 again", x.feed(0, 0, 0, 0, 0), -1);
        Due.is("9 it has no STATUS", x.status(), 1);
        Due.refused(x, "10 more than the tape has", x.checker(901), 1);
        Due.is("9 the tape stays full", x.feed(0, 0, 0, 0, 0), -1);
        Due.fine(x, "10 nothing of that came to the tape", x.checker(900), 0);
        Due.is("10 the tape is empty then", x.feed(blanks, blanks, blanks, blanks, blanks), 20);
        Due.refused(x, "10 nothing is left of that ahead", x.checker(21), 1);
        Due.fine(x, "10 nothing is left of that ahead", x.checker(20), 0);
    }

    // Bytes of each int: the highest first; those of 128 and more don't spill over.
    private static void feedingTheHighestFirst() {
        for (int at = 0; at < 20; at++) {
            int[] f = {0x20202020, 0x20202020, 0x20202020, 0x20202020, 0x20202020};
            f[at / 4] = f[at / 4] & ~(255 << 24 - 8 * (at % 4)) | 0xff << 24 - 8 * (at % 4);
            NestedChecker x = new NestedChecker();
            x.feed(f[0], f[1], f[2], f[3], f[4]);
            Due.refused(x, "9 a byte at " + at, x.checker(20), 9);
            Due.is("9 a byte at " + at, x.fault(1), at);
            x.feed(f[0], f[1], f[2], f[3], f[4]);
            Due.fine(x, "10 the first n: not the byte at " + at, x.checker(at), 0);
            x.feed(f[0], f[1], f[2], f[3], f[4]);
            Due.refused(x, "10 the first n: the byte at " + at, x.checker(at + 1), 9);
        }
    }

    private static void textOf900() {
        String rules = HEAD + "rule i 0 0;";
        String text = rules + times(" ", 900 - rules.length() - 11) + "rule i 1 1;";
        NestedChecker x = good(text, 1);
        Due.is("1 the last byte counts", x.automaton(0, 4), 2);
        bad(text.substring(0, 899), 2, 899);
        bad(text.substring(0, 899) + "!", 1, 899);
        good(text.substring(0, 889) + times("\n", 11), 1);
        good(times(" ", 900), 0);
    }

    // ---- bytes and TOKENS

    private static boolean isBlank(int b) {
        return b == 10 || b == 32;
    }

    private static boolean begins(int b) {
        return b >= 'a' && b <= 'z' || b >= '0' && b <= '9' || b == ';';
    }

    private static void everyByteFirst() {
        for (int b = 0; b < 256; b++) {
            String text = "" + (char) b;
            if (isBlank(b)) {
                good(text, 0);
            } else {
                bad(text, begins(b) ? 2 : 1, 0);
            }
        }
    }

    // Between the WORD call and a NAME: blanks alone part them.
    private static void everyByteWithin() {
        for (int b = 0; b < 256; b++) {
            String text = "call" + (char) b + "c;";
            if (isBlank(b)) {
                good(text, 0);
            } else if (b >= 'a' && b <= 'z') {
                bad(text, 2, 0);
            } else {
                bad(text, begins(b) ? 2 : 1, 4);
            }
        }
    }

    private static void tokensAsLongAsTheyGo() {
        bad("callc;", 2, 0);
        bad("call c0;", 2, 6);
        bad("call cretr;ret d;call e;call f;", 6, 24);
        good("\n\n call\n c\n;\nret r ; ", 0);
        good("call c;automaton 1symbols 1;start;accept;rule c 0 0push 0;", 1);
        good("call c;automaton 0001symbols 0001;rule c 0000 0000push 0000;", 1);
        bad("call c;automaton 1 symbols 1;rule c 00push 0;", 2, 38);
        bad("automaton 1 symbols 1;start 00;start0;", 5, 36);
        Due.is("1 01 is one NUMBER", good("automaton 2 symbols 1;start 01;", 1).automaton(0, 2), 2);
        Due.is("1 0 1 are two", good("automaton 2 symbols 1;start 0 1;", 1).automaton(0, 2), 3);
    }

    private static void digitsOfNumbers() {
        for (String one : new String[] {"1", "01", "001", "0001"}) {
            good("automaton " + one + " symbols " + one + ";", 1);
        }
        bad("automaton 00001 symbols 1;", 1, 10);
        bad("automaton 1 symbols 00001;", 1, 20);
        bad(HEAD + "start 00000;", 1, H + 6);
        bad(HEAD + "accept 0 00000;", 1, H + 9);
        bad(HEAD + "rule i 00000 0;", 1, H + 7);
        bad(HEAD + "rule i 0 00000;", 1, H + 9);
        bad(HEAD + "rule c 0 0 push 00000;", 1, H + 16);
        bad(HEAD + "rule r 0 0 pop 00000;", 1, H + 15);
        bad("automaton 9999 symbols 1;", 4, 10);
        bad("automaton " + times("9", 800), 1, 10);
        bad("automaton 4294967297 symbols 1;", 1, 10);
        bad("0", 2, 0);
        bad("9999", 2, 0);
        bad("99999", 1, 0);
    }

    // ---- NAMES and LETTERS

    private static void lettersOfNames() {
        for (String name : new String[] {"a", "z", "ab", "abcdefgh", "zzzzzzzz"}) {
            NestedChecker x = good("inner " + name + ";automaton 1 symbols 1;rule " + name + " 0 0;", 1);
            Due.is("1 the NAME " + name, x.rule(0, 0, 0), 0);
        }
        bad("inner abcdefghi;", 2, 6);
        bad("inner " + times("a", 800) + ";", 2, 6);
        bad("call abcdefghi", 2, 5);
        bad("ret abcdefghi", 2, 4);
        bad("inner abcdefgh;automaton 1 symbols 1;rule abcdefghi 0 0;", 2, 42);
        bad("inner abcdefgh;automaton 1 symbols 1;rule abcdefg 0 0;", 3, 42);
        NestedChecker x = good("call abcdefgh;call abcdefgx;ret xbcdefgh;inner abcdefg;automaton 1 symbols 1;"
                + "rule abcdefgx 0 0 push 0;rule abcdefg 0 0;rule xbcdefgh 0 0 empty;rule abcdefgh 0 0 push 0;", 1);
        Due.is("1 NAMES that differ in one letter", x.rule(0, 0, 0) * 1000 + x.rule(0, 1, 0) * 100 + x.rule(0, 2, 0) * 10
                + x.rule(0, 3, 0), 1320);
    }

    private static void keysAreNoNames() {
        for (String key : KEYS) {
            bad("call " + key + ";", 2, 5);
            bad("ret " + key + ";", 2, 4);
            bad("inner " + key + ";", 2, 6);
            bad(HEAD + "rule " + key + " 0 0;", 2, H + 5);
            if (key.length() > 1 && key.length() < 10) {
                good("inner " + key.substring(1) + ";", 0);
            }
            if (key.length() < 8) {
                good("inner " + key + "x;inner x" + key + ";", 0);
            }
        }
    }

    // Another letter in any place of a key: no PART begins so, and it can be a NAME.
    private static void almostKeysAreNames() {
        for (String key : KEYS) {
            for (int i = 0; i < key.length(); i++) {
                String almost = key.substring(0, i) + 'z' + key.substring(i + 1);
                bad(almost + " a;", 2, 0);
                bad(HEAD + almost + " 0;", 2, H);
                bad("automaton 1 " + almost + " 1;", 2, 12);
                bad(HEAD + "rule c 0 0 " + almost + " 0;", 2, H + 11);
                bad(HEAD + "rule r 0 0 " + almost + " 0;", 2, H + 11);
                if (key.length() <= 8) {
                    good("inner " + almost + ";automaton 1 symbols 1;rule " + almost + " 0 0;", 1);
                }
            }
        }
    }

    private static void oneNameOnce() {
        String[] sorts = {"call", "ret", "inner"};
        for (String first : sorts) {
            for (String second : sorts) {
                String ahead = first + " same;" + second + " ";
                bad(ahead + "same;", 3, ahead.length());
                good(ahead + "sam;", 0);
            }
        }
    }

    private static void twoOfEachSort() {
        String[] sorts = {"call", "ret", "inner"};
        for (int i = 0; i < 3; i++) {
            String two = sorts[i] + " a;" + sorts[i] + " b;";
            NestedChecker x = good(two, 0);
            Due.is("1 two of " + sorts[i], x.told(i), 2);
            bad(two + sorts[i] + " c;", 6, two.length());
            bad(two + sorts[i], 6, two.length());
            bad(two + sorts[i] + " a;", 6, two.length());
        }
        NestedChecker x = good("inner a;ret b;call c;inner d;ret e;call f;automaton 1 symbols 1;"
                + "rule a 0 0;rule b 0 0 empty;rule c 0 0 push 0;rule d 0 0;rule e 0 0 empty;rule f 0 0 push 0;", 1);
        int[] numbers = {4, 2, 0, 5, 3, 1};
        for (int k = 0; k < 6; k++) {
            Due.fine(x, "1 they are numbered: CALLS, RETURNS, INNER ones", x.rule(0, k, 0), numbers[k]);
        }
    }

    private static void lettersAheadOfAutomata() {
        for (String sort : new String[] {"call", "ret", "inner"}) {
            bad("automaton 1 symbols 1;" + sort + " a;", 5, 22);
            bad("automaton 1 symbols 1;" + sort, 5, 22);
            bad("automaton 1 symbols 1;automaton 1 symbols 1;" + sort + " a;", 5, 44);
            bad(sort + " a;" + sort + " b;automaton 1 symbols 1;" + sort + " c;", 5, 2 * sort.length() + 28);
        }
    }

    // ---- AUTOMATA

    private static void twoAutomata() {
        String one = "automaton 1 symbols 1;";
        Due.is("1 none", good(LETTERS, 0).told(3), 0);
        Due.is("1 one", good(one, 1).told(3), 1);
        Due.is("1 two", good(one + one, 2).told(3), 2);
        bad(one + one + one, 6, 44);
        bad(one + one + "automaton", 6, 44);
    }

    private static void statesAndSymbols() {
        for (int n = 1; n <= 3; n++) {
            NestedChecker x = good("automaton " + n + " symbols " + (4 - n) + ";start " + (n - 1) + ";accept " + (n - 1) + ";", 1);
            Due.is("1 STATES", x.automaton(0, 0), n);
            Due.is("1 SYMBOLS", x.automaton(0, 1), 4 - n);
            Due.is("1 the last STATE", x.automaton(0, 2), 1 << n - 1);
            String head = LETTERS + "automaton " + n + " symbols " + n + ";";
            String last = (n - 1) + " " + (n - 1);
            Due.is("1 the last SYMBOL", good(head + "rule c " + last + " push " + (n - 1) + ";", 1).rule(0, 0, 3), n - 1);
            Due.is("1 the last SYMBOL", good(head + "rule r " + last + " pop " + (n - 1) + ";", 1).rule(0, 0, 3), n - 1);
            bad(head + "start " + n + ";", 4, head.length() + 6);
            bad(head + "accept " + n + ";", 4, head.length() + 7);
            bad(head + "rule i " + n + " 0;", 4, head.length() + 7);
            bad(head + "rule i 0 " + n + ";", 4, head.length() + 9);
            bad(head + "rule c 0 0 push " + n + ";", 4, head.length() + 16);
            bad(head + "rule r 0 0 pop " + n + ";", 4, head.length() + 15);
        }
        for (int n : new int[] {0, 4, 10, 9999}) {
            bad("automaton " + n + " symbols 1;", 4, 10);
            bad("automaton 1 symbols " + n + ";", 4, 20);
        }
    }

    private static void whatIsToldBehindIsOfIt() {
        NestedChecker x = good(LETTERS + "automaton 1 symbols 1;start 0;rule i 0 0;automaton 3 symbols 2;"
                + "accept 2 0;start 1;accept 1;rule c 2 2 push 1;rule i 0 0;", 2);
        int[] first = {1, 1, 1, 0, 1};
        int[] second = {3, 2, 2, 7, 2};
        for (int what = 0; what < 5; what++) {
            Due.fine(x, "1 of the first", x.automaton(0, what), first[what]);
            Due.fine(x, "1 of the second", x.automaton(1, what), second[what]);
        }
        bad("automaton 3 symbols 3;automaton 1 symbols 1;start 1;", 4, 50);
        bad(LETTERS + "automaton 1 symbols 3;automaton 1 symbols 1;rule c 0 0 push 1;", 4, 81);
    }

    private static void noPartsAndNoNumbers() {
        NestedChecker x = new NestedChecker();
        Due.fine(x, "1 a CHECKER of no PARTS", x.checker(0), 0);
        Due.is("11 no FAULT", x.fault(0), 0);
        x = good("automaton 2 symbols 1;start;accept;start;accept;", 1);
        Due.is("1 no STARTS and ACCEPTS", x.automaton(0, 2) + x.automaton(0, 3), 0);
        x = good("automaton 2 symbols 1;start 0;start;start 1;accept 1;accept 0;", 1);
        Due.is("1 those STATES besides", x.automaton(0, 2) * 10 + x.automaton(0, 3), 33);
    }

    private static void statesOnce() {
        for (String what : new String[] {"start", "accept"}) {
            String ahead = HEAD + what + " 1;" + what + " 0 ";
            bad(ahead + "1;", 5, ahead.length());
            bad(HEAD + what + " 0 0;", 5, H + what.length() + 3);
            bad(HEAD + what + " 0 00;", 5, H + what.length() + 3);
            bad(HEAD + what + " 0 1 0 2;", 5, H + what.length() + 5);
        }
        good(HEAD + "start 0 1;accept 0 1;automaton 2 symbols 1;start 0 1;accept 0 1;", 2);
    }

    private static String twenty(String letter) {
        StringBuilder t = new StringBuilder();
        for (int i = 0; i < 20; i++) {
            t.append("rule ").append(letter).append(' ').append(i % 3).append(' ').append(i / 3 % 3).append(" push ").append(i / 9).append(';');
        }
        return t.toString();
    }

    private static void twentyRules() {
        String full = "call c;automaton 3 symbols 3;" + twenty("c");
        NestedChecker x = good(full, 1);
        Due.is("1 twenty RULES", x.automaton(0, 4), 20);
        Due.is("1 the twentieth", x.rule(0, 19, 1) * 100 + x.rule(0, 19, 2) * 10 + x.rule(0, 19, 3), 102);
        bad(full + "rule c 2 2 push 2;", 6, full.length());
        bad(full + "rule c 0 0 push 0;", 6, full.length());
        bad(full + "rule", 6, full.length());
        bad(full + "start 0;rule x", 6, full.length() + 8);
        String next = full + "automaton 3 symbols 3;";
        good(next + "rule c 0 0 push 0;", 2);
        NestedChecker both = good(next + twenty("c"), 2);
        Due.is("1 twenty of each", both.automaton(0, 4) + both.automaton(1, 4), 40);
        bad(next + twenty("c") + "rule", 6, next.length() + twenty("c").length());
    }

    private static void rulesOnce() {
        String[] rules = {"rule c 0 1 push 1", "rule r 0 1 pop 1", "rule r 0 1 empty", "rule i 0 1"};
        for (String rule : rules) {
            String twice = HEAD + rule + ";accept 0;" + rule;
            bad(twice + ";", 5, twice.length());
            bad(twice + " ;", 5, twice.length() + 1);
            bad(twice + "\n\n;", 5, twice.length() + 2);
            bad(twice, 2, twice.length());
            bad(twice + "!", 1, twice.length());
            good(HEAD + rule + ";automaton 2 symbols 2;" + rule + ";", 2);
        }
        good(HEAD + "rule c 0 1 push 1;rule c 1 1 push 1;rule c 0 0 push 1;rule c 0 1 push 0;"
                + "rule r 0 1 pop 1;rule r 0 1 pop 0;rule r 0 1 empty;rule r 1 1 empty;rule i 0 1;rule i 1 0;", 1);
    }

    private static void stackOfRules() {
        String[] stacks = {"push 0", "pop 0", "empty", ""};
        String[] fine = {"c push 0", "r pop 0", "r empty", "i "};
        for (String letter : new String[] {"c", "r", "i"}) {
            for (String stack : stacks) {
                String text = HEAD + "rule " + letter + " 0 0 " + stack + ";";
                if (List.of(fine).contains(letter + " " + stack)) {
                    good(text, 1);
                } else {
                    bad(text, 2, H + 11);
                }
            }
        }
        bad(HEAD + "rule c 0 0 symbols 0;", 2, H + 11);
        bad(HEAD + "rule c 0 0 0;", 2, H + 11);
        bad(HEAD + "rule r 0 0 c;", 2, H + 11);
        bad(HEAD + "rule i 0 0 c;", 2, H + 11);
    }

    // ---- FAULTS

    // A text cut behind each of its TOKENS, with blanks behind it: the place is the text's length.
    private static void endOfTheText() {
        String[] parts = {"call c", "ret r", "inner i", "automaton 2 symbols 2", "start 0 1", "accept 1", "start", "rule c 0 1 push 1",
            "rule r 1 0 pop 1", "rule r 1 1 empty", "rule i 0 0"};
        StringBuilder ahead = new StringBuilder();
        for (String part : parts) {
            for (int end = 1; end <= part.length(); end++) {
                if (end == part.length() || part.charAt(end) == ' ') {
                    String cut = ahead + part.substring(0, end);
                    bad(cut, 2, cut.length());
                    bad(cut + " \n ", 2, cut.length() + 3);
                }
            }
            ahead.append(part).append(';');
            good(ahead.toString(), ahead.indexOf("auto") < 0 ? 0 : 1);
        }
    }

    // Each FAULT ahead of one of every kind that would be told if it were alone.
    private static void firstAlongTheText() {
        String[] texts = {"!", ";", "start x;", "start 9;", "inner x;", "automaton 1 symbols 1;automaton"};
        int[] places = {0, 0, 6, 6, 0, 22};
        int[] kinds = {1, 2, 2, 4, 5, 6};
        for (int i = 0; i < texts.length; i++) {
            for (String behind : texts) {
                bad(HEAD + texts[i] + " " + behind, kinds[i], H + places[i]);
            }
        }
        bad(HEAD + "rule x 9 !", 3, H + 5);
        bad(HEAD + "rule i 9 !", 4, H + 7);
        bad(HEAD + "rule i 0 !", 1, H + 9);
    }

    private static void leastKindOfOneToken() {
        bad("call 12345;", 1, 5);
        bad("automaton 55555 symbols 1;", 1, 10);
        bad(HEAD + "rule abcdefghi 0 0;", 2, H + 5);
        bad("call a;call b;automaton 1 symbols 1;call c;", 5, 36);
        bad("call a;call b;automaton 1 symbols 1;call a;", 5, 36);
        bad(HEAD + "start 2 2;", 4, H + 6);
        bad("inner call;inner call;", 2, 6);
        for (String early : new String[] {"start 0;", "accept 0;", "rule c 0 0 push 0;", "start", "accept", "rule"}) {
            bad(early, 2, 0);
            bad(LETTERS + early, 2, LETTERS.length());
        }
    }

    private static void takenInPlace() {
        NestedChecker x = of(HEAD + "start 0;accept 0;rule i 0 0;automaton 1 symbols 1;start 0;accept 0;");
        x.watch(1);
        x.mark();
        Due.refused(x, "1 with a FAULT", Due.tell(x, "call c;ret c;"), 9);
        Due.fine(x, "1 the MONITOR watches on", x.seen(0), 1);
        Due.fine(x, "1 the old one stays", x.told(3), 2);
        Due.fine(x, "1 taken", Due.tell(x, "ret b;automaton 1 symbols 1;"), 1);
        Due.refused(x, "1 the MONITOR watches none", x.seen(0), 6);
        Due.refused(x, "1 the MONITOR watches none", x.doomed(), 6);
        Due.refused(x, "1 the MONITOR watches none", x.see(0), 6);
        Due.is("1 in place of that ahead", x.told(0) * 1000 + x.told(1) * 100 + x.told(2) * 10 + x.told(3), 101);
        Due.is("1 its STARTS, ACCEPTS and RULES", x.automaton(0, 2) + x.automaton(0, 3) + x.automaton(0, 4), 0);
        Due.fine(x, "10 none in place of it", x.checker(0), 0);
        Due.is("10 none in place of it", x.told(1), 0);
        Due.fine(x, "51 the MARK has the old one", x.undo(), 0);
        Due.fine(x, "51 the MARK has the MONITOR", x.seen(0), 1);
        for (int i = 0; i < 4; i++) {
            Due.fine(x, "1 one behind the other", Due.tell(x, HEAD), 1);
            Due.refused(x, "1 the MONITOR watches none", x.seen(0), 6);
            x.watch(0);
        }
    }

    private static void faultsAreToldOf() {
        NestedChecker x = new NestedChecker();
        for (int what : new int[] {Twins.MIN, -1, 0, 1, 2, Twins.MAX}) {
            Due.is("11 ahead of any", x.fault(what), -1);
        }
        x.checker(1);
        Due.is("11 not of one with STATUS 1", x.fault(0), -1);
        Due.tell(x, "call");
        x.checker(-1);
        Due.is("11 the latest with 0 or 9", x.fault(0) * 10 + x.fault(1), 24);
        for (int what : new int[] {Twins.MIN, -1, 2, 3, Twins.MAX}) {
            Due.is("11 others", x.fault(what), -1);
        }
        Due.is("11 it has no STATUS", x.status(), 1);
        x.checker(0);
        x.checker(1);
        Due.is("11 without one", x.fault(0), 0);
        Due.is("11 without one", x.fault(1), -1);
    }
}

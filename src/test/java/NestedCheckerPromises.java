/** Promise by promise: ordinary inputs, the edges that the document names, wrong inputs. */
public final class NestedCheckerPromises {
    // Automaton 0 takes CALLS (and i) with RETURNS behind them, at least one; automaton 1 takes
    // words without i and without a LOOSE RETURN.
    private static final String BASE =
            "call c;ret r;inner i;"
            + "automaton 2 symbols 1;start 0;accept 1;"
            + "rule c 0 0 push 0;rule r 0 1 pop 0;rule r 1 1 pop 0;rule i 0 0;"
            + "automaton 1 symbols 1;start 0;accept 0;rule c 0 0 push 0;rule r 0 0 pop 0;";

    // All six LETTERS; automaton 0 with every sort of RULE, 3 STATES and 3 SYMBOLS.
    private static final String WIDE =
            "inner i; ret r;call c;\ninner j;ret s;call d;"
            + "automaton 3 symbols 3;start 0 1;accept 2;"
            + "rule c 0 1 push 0;rule d 1 2 push 2;rule r 1 0 pop 0;rule s 2 0 pop 2;"
            + "rule r 0 2 empty;rule i 0 0;rule j 2 1;"
            + "automaton 2 symbols 1;start;accept 0;start 1;";

    private static final int MIN = Integer.MIN_VALUE;
    private static final int MAX = Integer.MAX_VALUE;

    public static void main(String[] args) {
        newObject();
        status();
        fractions();
        tray();
        write();
        read();
        pour();
        feed();
        checker();
        checkerIsTakenInPlace();
        fault();
        faultsOfTokens();
        faultsOfPlaces();
        faultsOfNames();
        faultsOfNumbers();
        faultsOfTwice();
        faultsOfTooMany();
        told();
        automaton();
        rule();
        add();
        drop();
        start();
        accept();
        copy();
        takes();
        ends();
        runs();
        depth();
        partner();
        table();
        tableThatCannotBe();
        tableOfForty();
        summary();
        next();
        nextBack();
        well();
        reaches();
        shortest();
        both();
        parting();
        missing();
        includes();
        equal();
        count();
        share();
        lastAt();
        sample();
        chance();
        watch();
        see();
        seen();
        doomed();
        mark();
        undo();
        everyCallOnANewObject();
        Due.end("NestedCheckerPromises");
    }

    private static NestedChecker with(String text) {
        NestedChecker x = new NestedChecker();
        int many = Due.tell(x, text);
        Due.is("checker of " + text, many >= 0, true);
        return x;
    }

    private static String times(String part, int n) {
        StringBuilder t = new StringBuilder();
        for (int i = 0; i < n; i++) {
            t.append(part);
        }
        return t.toString();
    }

    // ---- 1 to 4

    private static void newObject() {
        NestedChecker x = new NestedChecker();
        Due.is("1 status", x.status(), 0);
        Due.fraction(x, "1 fraction", 0, 1);
        Due.is("1 fault", x.fault(0), -1);
        Due.is("1 fault place", x.fault(1), -1);
        for (int what = 0; what < 4; what++) {
            Due.fine(x, "1 told", x.told(what), 0);
        }
        for (int tray = 0; tray < 4; tray++) {
            Due.refused(x, "1 tray is missing", x.read(tray, 0), 2);
        }
        Due.refused(x, "1 watches none", x.doomed(), 6);
        Due.refused(x, "1 no marks", x.undo(), 6);
        Due.refused(x, "1 tape", x.checker(1), 1);
        Due.fine(x, "1 empty tape", x.checker(0), 0);
        Due.is("1 NONE", NestedChecker.NONE, -1);
    }

    private static void status() {
        NestedChecker x = with(BASE);
        x.told(9);
        Due.is("2 status", x.status(), 1);
        x.top();
        x.bottom();
        x.feed(0, 0, 0, 0, 0);
        x.fault(0);
        x.fault(7);
        Due.is("2 status stays by calls that have none", x.status(), 1);
        Due.is("2 status stays by itself", x.status(), 1);
        x.told(0);
        Due.is("2 status", x.status(), 0);
        x.undo();
        Due.is("2 status", x.status(), 6);
    }

    private static void fractions() {
        NestedChecker x = with(BASE);
        Due.fine(x, "3 share", x.share(0, 3));
        Due.is("3 top", x.top(), 1);
        Due.is("4 bottom", x.bottom(), 9);
        Due.denied(x, "3 share refused", x.share(0, 7), 1);
        Due.is("3 top stays", x.top(), 1);
        Due.is("4 bottom stays", x.bottom(), 9);
        Due.fine(x, "3 share of none", x.share(0, 1));
        Due.is("3 top", x.top(), 0);
        Due.is("4 bottom", x.bottom(), 1);
        x.count(0, 3);
        Due.fraction(x, "3 other calls tell none", 0, 1);
    }

    // ---- TRAYS, 5 to 8

    private static void tray() {
        NestedChecker x = new NestedChecker();
        Due.fine(x, "5 tray", x.tray(0, 0, 0));
        Due.refused(x, "5 no place", x.read(0, 0), 3);
        Due.fine(x, "5 tray", x.tray(3, 3, 60));
        Due.fine(x, "5 zeros", x.read(3, 59), 0);
        x.write(3, 59, 5);
        x.tray(3, 3, 59);
        x.tray(3, 3, 60);
        Due.fine(x, "5 zeros again", x.read(3, 59), 0);
        Due.denied(x, "5", x.tray(-1, 0, 0), 1);
        Due.denied(x, "5", x.tray(4, 0, 0), 1);
        Due.denied(x, "5", x.tray(0, -1, 0), 1);
        Due.denied(x, "5", x.tray(0, 4, 0), 1);
        Due.denied(x, "5", x.tray(0, 0, -1), 1);
        Due.denied(x, "5", x.tray(0, 0, 61), 1);
        Due.denied(x, "5", x.tray(MIN, MAX, MIN), 1);
        Due.fine(x, "5 refused changes nothing", x.read(3, 59), 0);
    }

    private static void write() {
        NestedChecker x = new NestedChecker();
        Due.denied(x, "6 missing", x.write(0, 0, 1), 2);
        Due.denied(x, "6 no such", x.write(4, 0, 1), 1);
        Due.denied(x, "6 no such", x.write(-1, 0, 1), 1);
        long v = 0x123456789abcdef0L;
        long[] cut = {(byte) v, (short) v, (int) v, v};
        for (int sort = 0; sort < 4; sort++) {
            x.tray(sort, sort, 2);
            Due.fine(x, "6 write", x.write(sort, 1, v));
            Due.fine(x, "6 cut", x.read(sort, 1), cut[sort]);
            Due.fine(x, "6 write", x.write(sort, 0, -1));
            Due.fine(x, "6 below 0", x.read(sort, 0), -1);
            Due.denied(x, "6 no place", x.write(sort, 2, 1), 3);
            Due.denied(x, "6 no place", x.write(sort, -1, 1), 3);
            Due.denied(x, "6 no place", x.write(sort, MIN, 1), 3);
            Due.denied(x, "6 no place", x.write(sort, MAX, 1), 3);
        }
        x.write(0, 0, 255);
        Due.fine(x, "6 255 in 8 bits", x.read(0, 0), -1);
        x.write(0, 0, 128);
        Due.fine(x, "6 128 in 8 bits", x.read(0, 0), -128);
        x.write(0, 0, 127);
        Due.fine(x, "6 127 in 8 bits", x.read(0, 0), 127);
        x.write(2, 0, 1L << 31);
        Due.fine(x, "6 32 bits", x.read(2, 0), MIN);
    }

    private static void read() {
        NestedChecker x = new NestedChecker();
        Due.refused(x, "7 no such", x.read(4, 0), 1);
        Due.refused(x, "7 no such", x.read(-1, -1), 1);
        Due.refused(x, "7 missing", x.read(1, 99), 2);
        x.tray(1, 3, 3);
        x.write(1, 2, Long.MIN_VALUE);
        Due.fine(x, "7 read", x.read(1, 2), Long.MIN_VALUE);
        Due.refused(x, "7 no place", x.read(1, 3), 3);
        Due.refused(x, "7 no place", x.read(1, -1), 3);
    }

    private static void pour() {
        NestedChecker x = new NestedChecker();
        Due.denied(x, "8", x.pour(4, 0, 0, 0, 0), 1);
        Due.denied(x, "8", x.pour(0, 0, -1, 0, 0), 1);
        Due.denied(x, "8", x.pour(0, -1, 1, 0, 0), 1);
        Due.denied(x, "8", x.pour(0, 0, 1, -1, 0), 1);
        Due.denied(x, "8", x.pour(0, 0, 1, 0, -1), 1);
        Due.denied(x, "8", x.pour(0, 0, 1, 0, 0), 2);
        Due.word(x, 0, 1, 2, 3, 4, 5);
        Due.denied(x, "8 to missing", x.pour(0, 0, 1, 0, 9), 2);
        x.tray(1, 1, 1);
        Due.denied(x, "8 unlike ahead of too few", x.pour(0, 0, 1, 0, 9), 8);
        x.tray(1, 0, 3);
        Due.denied(x, "8 too few", x.pour(0, 0, 1, 0, 4), 3);
        Due.denied(x, "8 too few", x.pour(0, 3, 1, 0, 3), 3);
        Due.denied(x, "8 too few", x.pour(0, MAX, 1, MAX, MAX), 3);
        Due.denied(x, "8 too few", x.pour(0, 0, 1, 0, MAX), 3);
        Due.fine(x, "8 pour", x.pour(0, 2, 1, 1, 2));
        Due.is("8", x.read(1, 0) * 100 + x.read(1, 1) * 10 + x.read(1, 2), 34);
        Due.fine(x, "8 none", x.pour(0, 5, 1, 3, 0));
        Due.fine(x, "8 its own, behind", x.pour(0, 0, 0, 1, 4));
        Due.is("8 as they were", digits(x, 5), 11234);
        Due.fine(x, "8 its own, ahead", x.pour(0, 1, 0, 0, 4));
        Due.is("8 as they were", digits(x, 5), 12344);
    }

    private static long digits(NestedChecker x, int n) {
        long v = 0;
        for (int i = 0; i < n; i++) {
            v = v * 10 + x.read(0, i);
        }
        return v;
    }

    // ---- the text, 9 to 14

    private static void feed() {
        NestedChecker x = new NestedChecker();
        for (int i = 1; i <= 45; i++) {
            Due.is("9 feed", x.feed(0x20202020, 0x20202020, 0x20202020, 0x20202020, 0x20202020), 20 * i);
        }
        Due.is("9 too many", x.feed(0, 0, 0, 0, 0), -1);
        Due.refused(x, "9 it has 900", x.checker(901), 1);
        Due.fine(x, "9 all blanks", x.checker(900), 0);
        Due.is("9 empty then", x.feed(0x63616c6c, 0x20613b01, 0, 0, 0xff000000), 20);
        Due.refused(x, "9 highest first", x.checker(8), 9);
        Due.is("9 highest first", x.fault(1), 7);
    }

    private static void checker() {
        NestedChecker x = new NestedChecker();
        Due.fine(x, "10 checker", Due.tell(x, BASE), 2);
        Due.refused(x, "10 the tape is empty then", x.checker(1), 1);
        Due.fine(x, "10 nothing", x.checker(0), 0);
        Due.is("10 nothing is there", x.told(3), 0);
        Due.fine(x, "10 letters alone", Due.tell(x, "call c;"), 0);
        Due.is("10 letters alone", x.told(0), 1);
        x.feed(0, 0, 0, 0, 0);
        Due.refused(x, "10 below 0", x.checker(-1), 1);
        Due.refused(x, "10 more than the tape has", x.checker(21), 1);
        Due.is("10 the tape stays", x.feed(0, 0, 0, 0, 0), 40);
        Due.refused(x, "10 fault", x.checker(40), 9);
        Due.is("10 the old one stays", x.told(0), 1);
        Due.is("10 the tape is empty then", x.feed(0, 0, 0, 0, 0), 20);
        Due.fine(x, "10 the first n", x.checker(0), 0);
    }

    private static void checkerIsTakenInPlace() {
        NestedChecker x = with(BASE);
        x.watch(0);
        x.mark();
        Due.tell(x, "call");
        Due.fine(x, "10 the monitor stays by a fault", x.seen(0), 0);
        Due.tell(x, "inner a;automaton 1 symbols 1;start 0;accept 0;");
        Due.refused(x, "10 the monitor watches none", x.seen(0), 6);
        Due.is("10 in place of that ahead", x.told(0) * 100 + x.told(2) * 10 + x.told(3), 11);
        Due.refused(x, "10 nothing of that ahead", x.automaton(1, 0), 1);
        Due.is("10 rules are new", x.automaton(0, 4), 0);
        Due.is("10 states are new", x.automaton(0, 0), 1);
        Due.fine(x, "10 marks stay", x.undo(), 0);
        Due.fine(x, "10 marks stay", x.told(3), 2);
        Due.fine(x, "10 marks stay", x.seen(0), 0);
        Due.fine(x, "10 blanks and none", Due.tell(with(BASE), "call a;ret b  ;\n\nautomaton 3symbols 2;start;accept 0 1 2 ;rule a 00 0002 push 1;"), 1);
        Due.fine(x, "10 tokens side by side", Due.tell(x, "call a;automaton 1symbols 1;start 0;rule a 0 0push 0;"), 1);
        Due.is("10 tokens side by side", x.automaton(0, 4), 1);
        Due.fine(x, "10 all small letters", Due.tell(x, "call abcdefgh;call ijklmnop;ret qrstuvwx;inner yz;"
                + "automaton 1 symbols 1;rule yz 0 0;rule ijklmnop 0 0 push 0;"), 1);
        Due.is("10 all small letters", x.rule(0, 0, 0) * 10 + x.rule(0, 1, 0), 31);
        nothingIsLeftOfThatAhead();
    }

    // What was reckoned of a CHECKER, and its RULES, are not those of the next ones.
    private static void nothingIsLeftOfThatAhead() {
        NestedChecker x = with(BASE);
        String[] texts = {"call c;ret r;inner i;automaton 2 symbols 1;", BASE, "inner i;automaton 1 symbols 1;start 0;accept 0;"};
        int[] tables = {2, 3, 2};
        int[] shortest = {-1, 2, 0};
        for (int i = 0; i < 9; i++) {
            Due.tell(x, texts[i % 3]);
            Due.is("10 shortest of " + i, x.shortest(0), shortest[i % 3]);
            Due.is("10 table of " + i, x.table(i % 3 == 1 ? 1 : 0), tables[i % 3]);
            Due.is("10 count of " + i, x.count(0, 2), i % 3 == 1 ? 1 : 0);
        }
    }

    private static void fault() {
        NestedChecker x = new NestedChecker();
        Due.is("11 ahead of any", x.fault(0), -1);
        Due.is("11 ahead of any", x.fault(1), -1);
        x.checker(5);
        Due.is("11 STATUS 1 tells none", x.fault(0), -1);
        Due.tell(x, "call;");
        Due.is("11 fault", x.fault(0), 2);
        Due.is("11 place", x.fault(1), 4);
        Due.is("11 others", x.fault(2), -1);
        Due.is("11 others", x.fault(-1), -1);
        x.checker(99);
        Due.is("11 the latest with 0 or 9", x.fault(0), 2);
        x.mark();
        Due.tell(x, BASE);
        Due.is("11 without one", x.fault(0), 0);
        Due.is("11 without one", x.fault(1), -1);
        Due.tell(x, "call c;x");
        x.undo();
        Due.is("11 undo leaves it", x.fault(1), 7);
    }

    private static void faulty(String text, int kind, int place) {
        NestedChecker x = new NestedChecker();
        Due.refused(x, "11 " + text, Due.tell(x, text), 9);
        Due.is("11 kind of " + text, x.fault(0), kind);
        Due.is("11 place of " + text, x.fault(1), place);
    }

    private static final String LETTERS = "call c;ret r;inner i;";
    private static final String HEAD = LETTERS + "automaton 2 symbols 2;";
    private static final int H = HEAD.length();

    private static void faultsOfTokens() {
        faulty("!", 1, 0);
        faulty("call C;", 1, 5);
        faulty("call c,", 1, 6);
        faulty(" \n\tcall c;", 1, 2);
        faulty("call " + (char) 233 + ";", 1, 5);
        faulty("12345", 1, 0);
        faulty("1234", 2, 0);
        faulty("automaton 12345 symbols 1;", 1, 10);
        faulty("automaton 00001 symbols 1;", 1, 10);
        faulty("automaton 0001 symbols 9999;", 4, 23);
        faulty(HEAD + "start 000000;", 1, H + 6);
        faulty("call 123456789;", 1, 5);
        faulty("caLl", 2, 0);
    }

    private static void faultsOfPlaces() {
        faulty(";", 2, 0);
        faulty("call", 2, 4);
        faulty("call  ", 2, 6);
        faulty("call c", 2, 6);
        faulty("call c \n ", 2, 9);
        faulty("call c d;", 2, 7);
        faulty("call 1;", 2, 5);
        faulty("call abcdefghi;", 2, 5);
        faulty("call automaton;", 2, 5);
        faulty("callx c;", 2, 0);
        for (String w : "call ret inner automaton symbols start accept rule push pop empty".split(" ")) {
            faulty("inner " + w + ";", 2, 6);
        }
        faulty("start 0;", 2, 0);
        faulty("accept 0;", 2, 0);
        faulty("call c;rule c 0 0 push 0;", 2, 7);
        faulty("push", 2, 0);
        faulty(HEAD + "symbols 1;", 2, H);
        faulty(HEAD + "x;", 2, H);
        faulty(HEAD + "abcdefghijkl;", 2, H);
        faulty(HEAD + "3;", 2, H);
        faulty(HEAD + ";", 2, H);
        faulty("automaton;", 2, 9);
        faulty("automaton x", 2, 10);
        faulty("automaton 1;", 2, 11);
        faulty("automaton 1 start", 2, 12);
        faulty("automaton 1 symbols;", 2, 19);
        faulty("automaton 1 symbols 1", 2, 21);
        faulty("automaton 1 symbols 1 1;", 2, 22);
        faulty(HEAD + "start 0 c;", 2, H + 8);
        faulty(HEAD + "start 0", 2, H + 7);
        faulty(HEAD + "accept", 2, H + 6);
        faulty(HEAD + "rule;", 2, H + 4);
        faulty(HEAD + "rule 0 0 0;", 2, H + 5);
        faulty(HEAD + "rule push 0 0;", 2, H + 5);
        faulty(HEAD + "rule abcdefghi 0 0;", 2, H + 5);
        faulty(HEAD + "rule i;", 2, H + 6);
        faulty(HEAD + "rule i 0;", 2, H + 8);
        faulty(HEAD + "rule i 0 0", 2, H + 10);
        faulty(HEAD + "rule i 0 0 push 0;", 2, H + 11);
        faulty(HEAD + "rule i 0 0 pop 0;", 2, H + 11);
        faulty(HEAD + "rule i 0 0 empty;", 2, H + 11);
        faulty(HEAD + "rule i 0 0 0;", 2, H + 11);
        faulty(HEAD + "rule c 0 0;", 2, H + 10);
        faulty(HEAD + "rule c 0 0 pop 0;", 2, H + 11);
        faulty(HEAD + "rule c 0 0 empty;", 2, H + 11);
        faulty(HEAD + "rule c 0 0 push;", 2, H + 15);
        faulty(HEAD + "rule c 0 0 push 0 0;", 2, H + 18);
        faulty(HEAD + "rule r 0 0;", 2, H + 10);
        faulty(HEAD + "rule r 0 0 push 0;", 2, H + 11);
        faulty(HEAD + "rule r 0 0 pop;", 2, H + 14);
        faulty(HEAD + "rule r 0 0 empty 0;", 2, H + 17);
    }

    private static void faultsOfNames() {
        faulty("call c;call c;", 3, 12);
        faulty("call c;ret c;", 3, 11);
        faulty("ret abcdefgh;inner abcdefgh;", 3, 19);
        faulty("call c;call c", 3, 12);
        faulty(HEAD + "rule x 0 0;", 3, H + 5);
        faulty(HEAD + "rule cc 9 9;", 3, H + 5);
        faulty("automaton 1 symbols 1;rule c 0 0 push 0;", 3, 27);
    }

    private static void faultsOfNumbers() {
        faulty("automaton 0 symbols 1;", 4, 10);
        faulty("automaton 4 symbols 1;", 4, 10);
        faulty("automaton 1 symbols 0;", 4, 20);
        faulty("automaton 1 symbols 4;", 4, 20);
        faulty(HEAD + "start 2;", 4, H + 6);
        faulty(HEAD + "accept 0 1 2;", 4, H + 11);
        faulty(HEAD + "accept 0 9999 0;", 4, H + 9);
        faulty(HEAD + "rule i 2 0;", 4, H + 7);
        faulty(HEAD + "rule i 0 2;", 4, H + 9);
        faulty(HEAD + "rule c 0 0 push 2;", 4, H + 16);
        faulty(HEAD + "rule r 0 0 pop 2;", 4, H + 15);
        faulty(HEAD + "automaton 1 symbols 1;start 1;", 4, H + 28);
    }

    private static void faultsOfTwice() {
        faulty(HEAD + "inner j;", 5, H);
        faulty(HEAD + "call", 5, H);
        faulty("call a;call b;automaton 1 symbols 1;call d;", 5, 36);
        faulty("automaton 1 symbols 1;ret a;", 5, 22);
        faulty(HEAD + "start 0 0;", 5, H + 8);
        faulty(HEAD + "start 0;start 1 0;", 5, H + 16);
        faulty(HEAD + "accept 1;start 1;accept 1;", 5, H + 24);
        faulty(HEAD + "rule i 0 0;rule i 0 0;", 5, H + 21);
        faulty(HEAD + "rule i 0 0;rule i 0 0 ;", 5, H + 22);
        faulty(HEAD + "rule i 0 0;rule i 0 0", 2, H + 21);
        faulty(HEAD + "rule c 0 1 push 1;rule c 0 1 push 01;", 5, H + 36);
        faulty(HEAD + "rule r 0 1 empty;rule r 0 1 empty;", 5, H + 33);
        Due.fine(new NestedChecker(), "10 unlike rules", Due.tell(new NestedChecker(), HEAD
                + "rule c 0 0 push 0;rule c 0 0 push 1;rule c 0 1 push 0;rule c 1 0 push 0;"
                + "rule r 0 0 empty;rule r 0 0 pop 0;rule i 0 0;start 0;accept 0;"
                + "automaton 2 symbols 2;rule i 0 0;start 0;accept 0;"), 2);
    }

    private static void faultsOfTooMany() {
        faulty("call a;call b;call c;", 6, 14);
        faulty("ret a;ret b;call c;ret a;", 6, 19);
        faulty("inner a;inner b;inner", 6, 16);
        faulty(times("automaton 1 symbols 1;", 3), 6, 44);
        StringBuilder rules = new StringBuilder("call c;ret r;automaton 3 symbols 3;");
        for (int i = 0; i < 20; i++) {
            rules.append("rule c ").append(i % 3).append(' ').append(i / 3 % 3).append(" push ").append(i / 9).append(';');
        }
        NestedChecker x = new NestedChecker();
        Due.fine(x, "10 twenty rules", Due.tell(x, rules.toString()), 1);
        Due.is("10 twenty rules", x.automaton(0, 4), 20);
        faulty(rules + "rule", 6, rules.length());
        faulty(rules + "rule c 0 0 push 0;", 6, rules.length());
        Due.fine(x, "10 of the second one", Due.tell(x, rules + "automaton 1 symbols 1;rule c 0 0 push 0;"), 2);
    }

    private static void told() {
        NestedChecker x = with("ret a;call b;ret c;inner d;automaton 1 symbols 1;");
        Due.fine(x, "12 calls", x.told(0), 1);
        Due.fine(x, "12 returns", x.told(1), 2);
        Due.fine(x, "12 inner", x.told(2), 1);
        Due.fine(x, "12 automata", x.told(3), 1);
        Due.refused(x, "12", x.told(4), 1);
        Due.refused(x, "12", x.told(-1), 1);
    }

    private static void automaton() {
        NestedChecker x = with(WIDE);
        int[] first = {3, 3, 3, 4, 7};
        int[] second = {2, 1, 2, 1, 0};
        for (int what = 0; what < 5; what++) {
            Due.fine(x, "13 first " + what, x.automaton(0, what), first[what]);
            Due.fine(x, "13 second " + what, x.automaton(1, what), second[what]);
        }
        Due.refused(x, "13", x.automaton(2, 0), 1);
        Due.refused(x, "13", x.automaton(-1, 0), 1);
        Due.refused(x, "13", x.automaton(0, 5), 1);
        Due.refused(x, "13", x.automaton(0, -1), 1);
    }

    private static void rule() {
        NestedChecker x = with(WIDE);
        // c d r s i j are 0 to 5, whatever the order in which the sorts are told.
        int[][] rules = {{0, 0, 1, 0}, {1, 1, 2, 2}, {2, 1, 0, 0}, {3, 2, 0, 2}, {2, 0, 2, -1}, {4, 0, 0, -1}, {5, 2, 1, -1}};
        for (int k = 0; k < rules.length; k++) {
            for (int what = 0; what < 4; what++) {
                Due.is("14 rule " + k + " " + what, x.rule(0, k, what), rules[k][what]);
                Due.is("14 STATUS", x.status(), rules[k][what] == -1 ? 6 : 0);
            }
        }
        Due.refused(x, "14", x.rule(0, 7, 0), 1);
        Due.refused(x, "14", x.rule(0, -1, 0), 1);
        Due.refused(x, "14", x.rule(1, 0, 0), 1);
        Due.refused(x, "14", x.rule(2, 0, 0), 1);
        Due.refused(x, "14", x.rule(0, 0, 4), 1);
        Due.refused(x, "14 number ahead of none", x.rule(0, 5, -1), 1);
    }

    // ---- what is done, 15 to 19

    private static void add() {
        NestedChecker x = with(BASE);
        Due.refused(x, "15 automaton", x.add(2, 0, 0, 0, 0), 1);
        Due.refused(x, "15 letter", x.add(0, 3, 0, 0, 0), 1);
        Due.refused(x, "15 letter", x.add(0, -1, 0, 0, 0), 1);
        Due.refused(x, "15 from", x.add(0, 0, 2, 0, 0), 1);
        Due.refused(x, "15 to", x.add(0, 0, 0, -1, 0), 1);
        Due.refused(x, "15 symbol", x.add(0, 0, 0, 0, 1), 1);
        Due.refused(x, "15 symbol", x.add(0, 1, 0, 0, -2), 1);
        Due.refused(x, "15 inner with one", x.add(0, 2, 0, 0, 0), 1);
        Due.refused(x, "15 call without", x.add(0, 0, 0, 0, -1), 1);
        Due.refused(x, "15 it is there", x.add(0, 0, 0, 0, 0), 7);
        Due.refused(x, "15 it is there", x.add(0, 2, 0, 0, -1), 7);
        Due.fine(x, "15 empty", x.add(0, 1, 0, 1, -1), 5);
        Due.is("15 behind", x.rule(0, 4, 0) * 10 + x.rule(0, 4, 2), 11);
        Due.word(x, 0, 1);
        Due.fine(x, "15 it works", x.takes(0, 0, 1), 1);
        Due.fine(x, "15 return", x.add(0, 1, 1, 0, 0), 6);
        Due.fine(x, "15 inner", x.add(0, 2, 0, 1, -1), 7);
        NestedChecker y = with("call c;automaton 3 symbols 3;");
        for (int i = 0; i < 20; i++) {
            Due.fine(y, "15 add", y.add(0, 0, i % 3, i / 3 % 3, i / 9), i + 1);
        }
        Due.refused(y, "15 a 21st", y.add(0, 0, 2, 2, 2), 4);
        Due.refused(y, "15 a 21st, though it is there", y.add(0, 0, 0, 0, 0), 4);
        Due.refused(y, "15 no such, though a 21st", y.add(0, 0, 0, 3, 0), 1);
    }

    private static void drop() {
        NestedChecker x = with(BASE);
        Due.refused(x, "16", x.drop(2, 0), 1);
        Due.refused(x, "16", x.drop(0, 4), 1);
        Due.refused(x, "16", x.drop(0, -1), 1);
        Due.word(x, 0, 0, 1);
        Due.fine(x, "16 drop", x.drop(0, 1), 3);
        Due.is("16 those behind go ahead", x.rule(0, 1, 1), 1);
        Due.is("16 those behind go ahead", x.rule(0, 2, 0), 2);
        Due.refused(x, "16 it is no more", x.rule(0, 3, 0), 1);
        Due.fine(x, "16 it is no more", x.takes(0, 0, 2), 0);
        Due.fine(x, "16 the last", x.drop(0, 2), 2);
        Due.fine(x, "16", x.drop(0, 0), 1);
        Due.fine(x, "16", x.drop(0, 0), 0);
        Due.refused(x, "16 none left", x.drop(0, 0), 1);
        Due.fine(x, "16 it can come again", x.add(0, 1, 0, 1, 0), 1);
    }

    private static void start() {
        NestedChecker x = with(BASE);
        Due.refused(x, "17", x.start(2, 0, true), 1);
        Due.refused(x, "17", x.start(0, 2, true), 1);
        Due.refused(x, "17", x.start(0, -1, false), 1);
        Due.refused(x, "17 it is so", x.start(0, 0, true), 7);
        Due.refused(x, "17 it is so", x.start(0, 1, false), 7);
        Due.fine(x, "17 is", x.start(0, 1, true), 3);
        Due.fine(x, "17 shortest", x.shortest(0), 0);
        Due.fine(x, "17 is not", x.start(0, 0, false), 2);
        Due.fine(x, "17 is not", x.start(0, 1, false), 0);
        Due.refused(x, "17 none is taken", x.shortest(0), 6);
        Due.is("17 accepts stay", x.automaton(0, 3), 2);
    }

    private static void accept() {
        NestedChecker x = with(BASE);
        Due.refused(x, "18", x.accept(-1, 0, true), 1);
        Due.refused(x, "18", x.accept(1, 1, true), 1);
        Due.refused(x, "18 it is so", x.accept(0, 1, true), 7);
        Due.refused(x, "18 it is so", x.accept(0, 0, false), 7);
        Due.fine(x, "18 is", x.accept(0, 0, true), 3);
        Due.fine(x, "18 shortest", x.shortest(0), 0);
        Due.fine(x, "18 is not", x.accept(0, 1, false), 1);
        Due.is("18 starts stay", x.automaton(0, 2), 1);
    }

    private static void copy() {
        NestedChecker x = with(BASE);
        Due.denied(x, "19 itself", x.copy(0, 0), 1);
        Due.denied(x, "19", x.copy(0, 2), 1);
        Due.denied(x, "19", x.copy(-1, 0), 1);
        Due.fine(x, "19 copy", x.copy(0, 1));
        for (int what = 0; what < 5; what++) {
            Due.is("19 as the first", x.automaton(1, what), x.automaton(0, what));
        }
        Due.is("19 rules", x.rule(1, 3, 0), 2);
        Due.fine(x, "19 equal", x.equal(0, 1), 1);
        x.drop(1, 0);
        Due.is("19 each has its own", x.automaton(0, 4), 4);
        NestedChecker y = with("automaton 1 symbols 1;");
        Due.denied(y, "19 one alone", y.copy(0, 1), 1);
    }

    // ---- words, 20 to 24

    private static void refusedWords(NestedChecker x, int a) {
        x.tray(2, 3, 21);
        Due.refused(x, "20", x.takes(2, 2, 0), 1);
        Due.refused(x, "20", x.takes(a, 4, 0), 1);
        Due.refused(x, "20", x.takes(a, 2, -1), 1);
        Due.refused(x, "20", x.takes(a, 2, 21), 1);
        Due.refused(x, "20", x.takes(a, 3, 20), 2);
        x.tray(1, 0, 3);
        Due.refused(x, "20", x.takes(a, 1, 4), 3);
        x.write(2, 19, 3);
        Due.refused(x, "20", x.takes(a, 2, 20), 5);
        Due.is("20 not in the word", x.takes(a, 2, 19), a);
        x.write(2, 19, 1L << 32);
        Due.refused(x, "20 of 64 bits", x.takes(a, 2, 20), 5);
        x.write(2, 19, -1);
        Due.refused(x, "21", x.ends(a, 2, 20), 5);
        Due.denied(x, "22", x.runs(a, 2, 20), 5);
        Due.refused(x, "23", x.depth(2, 20, 0), 5);
        Due.refused(x, "24", x.partner(2, 20, 0), 5);
        Due.refused(x, "21", x.ends(2, 2, 0), 1);
        Due.refused(x, "21", x.ends(a, 3, 0), 2);
        Due.refused(x, "21", x.ends(a, 1, 4), 3);
        Due.denied(x, "22", x.runs(2, 2, 0), 1);
        Due.denied(x, "22", x.runs(a, 2, 21), 1);
        Due.denied(x, "22", x.runs(a, 3, 0), 2);
        Due.denied(x, "22", x.runs(a, 1, 4), 3);
        Due.refused(x, "23", x.depth(3, 0, 0), 2);
        Due.refused(x, "23", x.depth(1, 4, 0), 3);
        Due.refused(x, "23", x.depth(2, 21, 0), 1);
        Due.refused(x, "23", x.depth(2, 1, 3), 1);
        Due.refused(x, "23", x.depth(3, 1, -1), 1);
        Due.refused(x, "24", x.partner(3, 1, 0), 2);
        Due.refused(x, "24", x.partner(1, 4, 3), 3);
        Due.refused(x, "24", x.partner(3, 1, 1), 1);
        Due.refused(x, "24", x.partner(3, 1, -1), 1);
        Due.refused(x, "24", x.partner(3, 0, 0), 1);
    }

    private static void takes() {
        NestedChecker x = with(BASE);
        refusedWords(x, 0);
        refusedWords(x, 1);
        Due.word(x, 0, 0, 2, 0, 1, 1);
        int[] taken = {0, 0, 0, 0, 1, 1};
        for (int n = 0; n <= 5; n++) {
            Due.fine(x, "20 takes " + n, x.takes(0, 0, n), taken[n]);
        }
        // A RETURN with a SYMBOL on the STACK goes by no EMPTY RULE, one without by no other.
        NestedChecker y = with("call c;ret r;automaton 2 symbols 2;start 0;accept 1;"
                + "rule c 0 0 push 1;rule r 0 1 empty;rule r 0 0 pop 0;");
        Due.word(y, 0, 1);
        Due.fine(y, "20 empty", y.takes(0, 0, 1), 1);
        Due.word(y, 0, 0, 1);
        Due.fine(y, "20 not empty", y.takes(0, 0, 2), 0);
        y.add(0, 1, 0, 0, 1);
        Due.fine(y, "20 popped", y.ends(0, 0, 2), 1);
        Due.word(y, 0, 0, 1, 1);
        Due.fine(y, "20 empty again", y.takes(0, 0, 3), 1);
        // Twenty PENDING, and whatever is on the STACK.
        NestedChecker z = with("call c;automaton 1 symbols 1;start 0;accept 0;rule c 0 0 push 0;");
        z.tray(0, 3, 60);
        Due.fine(z, "20 twenty", z.takes(0, 0, 20), 1);
    }

    private static void ends() {
        NestedChecker x = with("inner i;call c;automaton 3 symbols 1;start 0;rule i 0 0;rule i 0 1;rule c 1 2 push 0;rule c 0 2 push 0;");
        Due.word(x, 0, 1, 0, 0);
        Due.fine(x, "21 of none", x.ends(0, 0, 0), 1);
        Due.fine(x, "21", x.ends(0, 0, 1), 3);
        x.write(0, 1, 0);
        Due.fine(x, "21", x.ends(0, 0, 2), 4);
        Due.fine(x, "21 no run", x.ends(0, 0, 3), 0);
        x.start(0, 0, false);
        Due.fine(x, "21 no start", x.ends(0, 0, 0), 0);
    }

    private static void runs() {
        NestedChecker x = with("call c;ret r;automaton 2 symbols 3;start 0 1;accept 0 1;"
                + "rule c 0 0 push 0;rule c 0 0 push 1;rule c 0 1 push 2;rule c 1 1 push 0;"
                + "rule r 0 0 pop 0;rule r 0 1 pop 1;rule r 1 1 pop 2;");
        Due.word(x, 0, 0, 1, 0, 0);
        Due.fine(x, "22 of none", x.runs(0, 0, 0));
        Due.fraction(x, "22 of none", 2, 1);
        Due.fine(x, "22 unlike rules, unlike starts", x.runs(0, 0, 1));
        Due.fraction(x, "22 unlike rules, unlike starts", 4, 1);
        Due.fine(x, "22 popped", x.runs(0, 0, 2));
        Due.fraction(x, "22 popped", 3, 1);
        Due.fine(x, "22 on", x.runs(0, 0, 3));
        Due.fraction(x, "22 on", 5, 1);
        // From 0 a CALL goes to 0 twice and to 1 once, from 1 to 1 once.
        Due.fine(x, "22 on", x.runs(0, 0, 4));
        Due.fraction(x, "22 on", 9, 1);
        Due.denied(x, "22 refused", x.runs(0, 0, 5), 3);
        Due.fraction(x, "22 the fraction stays", 9, 1);
        x.accept(0, 0, false);
        x.accept(0, 1, false);
        Due.fine(x, "22 none", x.runs(0, 0, 4));
        Due.fraction(x, "22 none", 0, 1);
        NestedChecker y = with("call c;automaton 2 symbols 3;start 0 1;accept 0 1;"
                + "rule c 0 0 push 0;rule c 0 0 push 1;rule c 0 0 push 2;rule c 0 1 push 0;rule c 0 1 push 1;rule c 0 1 push 2;"
                + "rule c 1 0 push 0;rule c 1 0 push 1;rule c 1 0 push 2;rule c 1 1 push 0;rule c 1 1 push 1;rule c 1 1 push 2;");
        y.tray(0, 0, 20);
        Due.fine(y, "22 very many", y.runs(0, 0, 20));
        Due.fraction(y, "22 very many", 7312316880125952L, 1);
    }

    private static void depth() {
        NestedChecker x = with(WIDE);
        Due.word(x, 0, 2, 0, 4, 1, 3, 5, 1, 0, 2, 2, 2, 0);
        int[] pending = {0, 0, 1, 1, 2, 1, 1, 2, 3, 2, 1, 0, 1};
        for (int n = 0; n < pending.length; n++) {
            Due.fine(x, "23 pending", x.depth(0, n, 0), pending[n]);
            Due.fine(x, "23 loose", x.depth(0, n, 1), n == 0 ? 0 : 1);
        }
        int[] deepest = {0, 0, 1, 1, 2, 2, 2, 2, 3, 3, 3, 3, 3};
        for (int n = 0; n < deepest.length; n++) {
            Due.fine(x, "23 deepest", x.depth(0, n, 2), deepest[n]);
        }
    }

    private static void partner() {
        NestedChecker x = with(WIDE);
        Due.word(x, 0, 2, 0, 4, 1, 3, 5, 1, 0, 2, 2, 2, 0);
        int[] partners = {-1, 10, -1, 4, 3, -1, 9, 8, 7, 6, 1, -1};
        for (int k = 0; k < 12; k++) {
            Due.is("24 partner " + k, x.partner(0, 12, k), partners[k]);
            Due.is("24 STATUS", x.status(), partners[k] == -1 ? 6 : 0);
        }
        Due.refused(x, "24 pending in the first ten", x.partner(0, 10, 1), 6);
    }

    // ---- the TABLE, 25 to 28

    private static void table() {
        NestedChecker x = with(BASE);
        Due.fine(x, "25 table", x.table(1), 3);
        Due.refused(x, "25", x.table(2), 1);
        Due.refused(x, "25", x.table(-1), 1);
        NestedChecker y = with("automaton 3 symbols 1;start 0 2;");
        Due.fine(y, "25 no letters", y.table(0), 1);
        Due.is("25 no letters R", y.summary(0, 0, 0), 5);
        Due.is("25 no letters S", y.summary(0, 0, 1), 273);
    }

    // Two INNER LETTERS, a turn and a swap of 3 STATES, and a third way: more than 40.
    private static final String TOO_WIDE =
            "call c;ret r;inner i;inner j;automaton 3 symbols 1;start 0;accept 0;"
            + "rule i 0 1;rule i 1 2;rule i 2 0;rule j 0 1;rule j 1 0;rule j 2 2;rule j 0 2;"
            + "automaton 1 symbols 1;start 0;accept 0;rule i 0 0;";

    private static void tableThatCannotBe() {
        NestedChecker x = with(TOO_WIDE);
        Due.refused(x, "25 it can't be", x.table(0), 7);
        Due.refused(x, "26 it can't be", x.summary(0, 0, 0), 7);
        Due.refused(x, "26 a number ahead", x.summary(0, 0, 3), 1);
        Due.refused(x, "26 ahead of no such", x.summary(0, 99, 0), 7);
        Due.refused(x, "27 it can't be", x.next(0, 0, 0), 7);
        Due.refused(x, "27 a number ahead", x.next(0, 0, 4), 1);
        Due.refused(x, "28 it can't be", x.nextBack(0, 0, 1, 0, 0), 7);
        Due.refused(x, "28 a number ahead", x.nextBack(0, 0, 0, 0, 0), 1);
        Due.refused(x, "35 it can't be", x.parting(1, 0), 7);
        Due.refused(x, "36 it can't be", x.partingAt(1, 0, 99), 7);
        Due.refused(x, "36 k below 0", x.partingAt(1, 0, -1), 1);
        Due.refused(x, "37 it can't be", x.missing(0), 7);
        Due.refused(x, "38 it can't be", x.missingAt(0, 99), 7);
        Due.refused(x, "38 k below 0", x.missingAt(0, -1), 1);
        Due.refused(x, "39 it can't be", x.includes(1, 0), 7);
        Due.fine(x, "39 of the second one alone", x.includes(0, 1), 0);
        Due.refused(x, "40 it can't be", x.equal(0, 1), 7);
        Due.refused(x, "40 it can't be", x.equal(1, 0), 7);
        Due.fine(x, "35 of the second one alone", x.parting(0, 1), 2);
        Due.fine(x, "31 needs no table", x.shortest(0), 0);
        Due.fine(x, "41 needs no table", x.count(0, 2), 3);
        for (int k = 0; k < 4; k++) {
            x.drop(0, 3);
        }
        Due.is("25 it can be again", x.table(0) > 0, true);
    }

    // TABLES of just 40 and of 41 would-be SUMMARIES.
    private static void tableOfForty() {
        NestedChecker x = with("call c;ret r;inner i;automaton 3 symbols 2;start 0;accept 2;"
                + "rule r 0 0 empty;rule i 1 0;rule i 2 1;rule i 0 1;rule r 1 2 empty;"
                + "automaton 3 symbols 2;start 0;accept 2;"
                + "rule i 0 0;rule r 1 1 empty;rule i 1 0;rule i 2 1;rule i 0 2;");
        Due.fine(x, "25 forty", x.table(0), 40);
        Due.fine(x, "26 the last", x.summary(0, 39, 0), x.summary(0, 39, 0));
        Due.refused(x, "26 behind the last", x.summary(0, 40, 0), 6);
        Due.is("37 forty", x.missing(0) >= 0, true);
        Due.refused(x, "25 forty-one", x.table(1), 7);
        Due.refused(x, "37 forty-one", x.missing(1), 7);
    }

    private static void summary() {
        NestedChecker x = with(BASE);
        int[][] rows = {{1, 1, 1}, {0, 0, 0}, {0, 1, 0}};
        for (int k = 0; k < 3; k++) {
            for (int what = 0; what < 3; what++) {
                Due.fine(x, "26 summary", x.summary(1, k, what), rows[k][what]);
            }
        }
        Due.refused(x, "26 no such", x.summary(1, 3, 0), 6);
        Due.refused(x, "26 no such", x.summary(1, -1, 0), 6);
        Due.refused(x, "26", x.summary(1, 0, 3), 1);
        Due.refused(x, "26", x.summary(1, 9, -1), 1);
        Due.refused(x, "26", x.summary(2, 0, 0), 1);
        x.accept(1, 0, false);
        Due.fine(x, "26 no accept", x.summary(1, 0, 2), 0);
        // S of automaton 0 behind c r: from 0 to 1 alone.
        int back = x.nextBack(0, 0, 1, 0, 0);
        Due.fine(x, "26 S", x.summary(0, back, 1), 2);
        Due.fine(x, "26 R", x.summary(0, back, 0), 2);
    }

    private static void next() {
        NestedChecker x = with(BASE);
        Due.fine(x, "27 call", x.next(1, 0, 0), 0);
        Due.fine(x, "27 return with nothing below", x.next(1, 0, 1), 1);
        Due.fine(x, "27 inner", x.next(1, 0, 2), 1);
        Due.fine(x, "27 call", x.next(1, 1, 0), 2);
        Due.fine(x, "27 call", x.next(1, 2, 0), 2);
        Due.fine(x, "27 inner", x.next(1, 2, 2), 1);
        Due.refused(x, "27 no such", x.next(1, 3, 0), 6);
        Due.refused(x, "27 no such", x.next(1, -1, 0), 6);
        Due.refused(x, "27 letter", x.next(1, 0, 3), 1);
        Due.refused(x, "27 letter", x.next(1, 9, -1), 1);
        Due.refused(x, "27", x.next(2, 0, 0), 1);
    }

    private static void nextBack() {
        NestedChecker x = with(BASE);
        int[][] rows = {{0, 1, 2}, {1, 1, 1}, {0, 1, 2}};
        for (int k = 0; k < 3; k++) {
            for (int j = 0; j < 3; j++) {
                Due.fine(x, "28 " + k + " with " + j, x.nextBack(1, k, 1, j, 0), rows[k][j]);
            }
        }
        Due.refused(x, "28 no such", x.nextBack(1, 3, 1, 0, 0), 6);
        Due.refused(x, "28 no such", x.nextBack(1, 0, 1, 3, 0), 6);
        Due.refused(x, "28 no such", x.nextBack(1, -1, 1, 0, 0), 6);
        Due.refused(x, "28 no such", x.nextBack(1, 0, 1, -1, 0), 6);
        Due.refused(x, "28 no return", x.nextBack(1, 0, 0, 0, 0), 1);
        Due.refused(x, "28 no return", x.nextBack(1, 0, 2, 0, 0), 1);
        Due.refused(x, "28 no call", x.nextBack(1, 0, 1, 0, 1), 1);
        Due.refused(x, "28 no call", x.nextBack(1, 9, 1, 9, 2), 1);
        Due.refused(x, "28 no letter", x.nextBack(1, 0, 3, 0, 0), 1);
        Due.refused(x, "28", x.nextBack(2, 0, 1, 0, 0), 1);
    }

    // ---- the shortest words, 29 to 40

    private static void well() {
        NestedChecker x = with(BASE);
        Due.fine(x, "29 to itself", x.well(0, 1, 1), 0);
        Due.fine(x, "29", x.well(0, 0, 1), 2);
        Due.refused(x, "29 none such", x.well(0, 1, 0), 6);
        Due.refused(x, "29 state", x.well(0, 2, 0), 1);
        Due.refused(x, "29 state", x.well(0, 0, -1), 1);
        Due.refused(x, "29", x.well(2, 0, 0), 1);
        x.add(0, 2, 0, 1, -1);
        Due.fine(x, "29 by one letter", x.well(0, 0, 1), 1);
        NestedChecker y = with(WIDE);
        // c goes to 1, d on to 2, j back to 1: from 1 to 0 inside of d and s alone.
        Due.fine(y, "29 d s", y.well(0, 1, 0), 2);
        y.drop(0, 3);
        Due.refused(y, "29 without s", y.well(0, 1, 0), 6);
        // Starts and EMPTY RULES don't matter.
        Due.refused(y, "29 not by empty", y.well(0, 0, 2), 6);
        y.start(0, 0, false);
        Due.fine(y, "29 whatever starts", y.well(0, 2, 1), 1);
    }

    private static void reaches() {
        NestedChecker x = with(BASE);
        Due.fine(x, "30", x.reaches(0), 3);
        Due.fine(x, "30", x.reaches(1), 1);
        x.start(0, 0, false);
        Due.fine(x, "30 no start", x.reaches(0), 0);
        Due.refused(x, "30", x.reaches(2), 1);
        // The EMPTY RULE can't be used once a CALL is PENDING.
        NestedChecker y = with("call c;ret r;automaton 3 symbols 1;start 0;rule c 0 1 push 0;rule r 1 2 empty;");
        Due.fine(y, "30 empty, not below a call", y.reaches(0), 3);
        y.start(0, 1, true);
        Due.fine(y, "30 empty at the start", y.reaches(0), 7);
        NestedChecker z = with("call c;ret r;automaton 3 symbols 2;start 0;rule c 0 1 push 0;rule r 1 2 pop 1;");
        Due.fine(z, "30 another symbol", z.reaches(0), 3);
        z.add(0, 1, 1, 2, 0);
        Due.fine(z, "30 the symbol", z.reaches(0), 7);
    }

    private static void shortest() {
        NestedChecker x = with(BASE);
        Due.fine(x, "31", x.shortest(0), 2);
        Due.fine(x, "31 of none", x.shortest(1), 0);
        Due.refused(x, "31", x.shortest(2), 1);
        Due.fine(x, "32", x.shortestAt(0, 0), 0);
        Due.fine(x, "32", x.shortestAt(0, 1), 1);
        Due.refused(x, "32 no such", x.shortestAt(0, 2), 6);
        Due.refused(x, "32 no such", x.shortestAt(0, MAX), 6);
        Due.refused(x, "32 no such", x.shortestAt(1, 0), 6);
        Due.refused(x, "32 k below 0", x.shortestAt(0, -1), 1);
        Due.refused(x, "32", x.shortestAt(2, 0), 1);
        x.accept(0, 1, false);
        Due.refused(x, "31 none is", x.shortest(0), 6);
        Due.refused(x, "32 none is", x.shortestAt(0, 0), 6);
        x.accept(0, 0, true);
        x.start(0, 0, false);
        x.start(0, 1, true);
        Due.refused(x, "31 no way back", x.shortest(0), 6);
        NestedChecker y = with("call c;automaton 2 symbols 1;start 0;accept 1;rule c 0 1 push 0;");
        Due.fine(y, "31 pending is fine", y.shortest(0), 1);
        sixAreTold();
        moreThanSix();
        NestedChecker w = with("ret r;automaton 3 symbols 1;start 0;accept 2;rule r 0 1 empty;rule r 1 2 empty;");
        Due.fine(w, "31 r r, both loose", w.shortest(0), 2);
        Due.fine(w, "41 r r, both loose", w.count(0, 2), 1);
        // Of several the first by LETTERS, whatever the order of the RULES.
        NestedChecker z = with("call c;call d;ret r;inner i;automaton 2 symbols 1;start 0;accept 1;"
                + "rule i 0 0;rule r 0 1 empty;rule i 0 1;rule d 0 1 push 0;");
        Due.fine(z, "32 the first", z.shortestAt(0, 0), 1);
        z.drop(0, 3);
        Due.fine(z, "32 the first", z.shortestAt(0, 0), 2);
    }

    // c c c c r r r: 2 is come to only in 1 with 1 on top, which takes a way from 0 to 1 above it.
    private static final String SEVEN =
            "call c;ret r;automaton 3 symbols 2;start 0;accept 2;"
            + "rule c 1 0 push 1;rule r 0 0 pop 1;rule r 1 2 pop 1;rule c 0 1 push 0;rule r 0 1 pop 0;"
            + "automaton 1 symbols 1;start 0;accept 0;rule c 0 0 push 0;rule r 0 0 pop 0;";

    // i c c i r r: 1 on top is POPPED in 1, then 0 in 0.
    private static void sixAreTold() {
        NestedChecker x = with("call c;ret r;inner i;automaton 3 symbols 2;start 0;accept 2;"
                + "rule c 1 0 push 1;rule r 1 0 pop 1;rule c 1 1 push 0;rule r 0 2 pop 0;rule i 0 1;"
                + "automaton 1 symbols 1;start 0;accept 0;rule c 0 0 push 0;rule r 0 0 pop 0;rule i 0 0;");
        int[] word = {2, 0, 0, 2, 1, 1};
        Due.fine(x, "31 six", x.shortest(0), 6);
        Due.fine(x, "33 six", x.both(0, 1), 6);
        Due.refused(x, "35 none", x.parting(0, 1), 6);
        for (int k = 0; k < 6; k++) {
            Due.fine(x, "32 six", x.shortestAt(0, k), word[k]);
            Due.fine(x, "34 six", x.bothAt(1, 0, k), word[k]);
        }
        x.accept(1, 0, false);
        for (int k = 0; k < 6; k++) {
            Due.fine(x, "36 six", x.partingAt(0, 1, k), word[k]);
        }
        // c r c r r: taken unless one more RETURN behind the second CALL finds what it can't POP.
        NestedChecker y = with("call c;ret r;automaton 3 symbols 2;start 0;accept 0 1;rule r 2 2 pop 0;rule r 0 0 empty;"
                + "rule c 0 2 push 0;rule r 2 0 pop 1;rule r 2 0 pop 0;rule r 2 1 pop 1;rule c 0 0 push 1;");
        Due.fine(y, "37 six", y.missing(0), 6);
        for (int n = 0; n < 6; n++) {
            Due.fine(y, "37 all of five and fewer", y.count(0, n), 1 << n);
        }
        int left = 64 - y.count(0, 6);
        y.tray(0, 0, 6);
        for (int k = 0; k < 6; k++) {
            y.write(0, k, y.missingAt(0, k));
        }
        Due.fine(y, "38 the word is not taken", y.takes(0, 0, 6), 0);
        Due.is("38 there is one", left > 0, true);
    }

    private static void moreThanSix() {
        NestedChecker x = with(SEVEN);
        Due.fine(x, "29 c c r r", x.well(0, 0, 1), 4);
        Due.fine(x, "31 seven", x.shortest(0), 7);
        Due.fine(x, "33 seven", x.both(0, 1), 7);
        for (int k = 0; k < 7; k++) {
            Due.refused(x, "32 it has more than 6", x.shortestAt(0, k), 7);
            Due.refused(x, "34 it has more than 6", x.bothAt(0, 1, k), 7);
        }
        Due.refused(x, "32 no such, ahead of that", x.shortestAt(0, 7), 6);
        Due.refused(x, "34 no such, ahead of that", x.bothAt(1, 0, 7), 6);
        Due.refused(x, "35 none", x.parting(0, 1), 6);
        x.accept(1, 0, false);
        Due.refused(x, "33 none", x.both(0, 1), 6);
        Due.fine(x, "35 seven", x.parting(0, 1), 7);
        Due.refused(x, "36 it has more than 6", x.partingAt(0, 1, 6), 7);
        Due.refused(x, "36 no such, ahead of that", x.partingAt(0, 1, 7), 6);
        NestedChecker y = with("call c;ret r;automaton 3 symbols 2;start 0;accept 0 1;"
                + "rule c 0 2 push 1;rule r 0 1 pop 0;rule r 0 0 empty;rule c 0 0 push 0;"
                + "rule r 2 0 pop 0;rule r 0 0 pop 1;rule c 0 2 push 0;rule r 2 2 pop 1;");
        Due.fine(y, "37 seven", y.missing(0), 7);
        Due.refused(y, "38 it has more than 6", y.missingAt(0, 0), 7);
        Due.refused(y, "38 no such, ahead of that", y.missingAt(0, 7), 6);
        for (int n = 0; n <= 6; n++) {
            Due.fine(y, "37 all of six and fewer", y.count(0, n), 1 << n);
        }
    }

    private static void both() {
        NestedChecker x = with(BASE);
        Due.fine(x, "33", x.both(0, 1), 2);
        Due.fine(x, "33", x.both(1, 0), 2);
        Due.refused(x, "33 itself", x.both(0, 0), 1);
        Due.refused(x, "33", x.both(0, 2), 1);
        Due.refused(x, "33", x.both(-1, 0), 1);
        Due.fine(x, "34", x.bothAt(0, 1, 0), 0);
        Due.fine(x, "34", x.bothAt(0, 1, 1), 1);
        Due.refused(x, "34 no such", x.bothAt(0, 1, 2), 6);
        Due.refused(x, "34 k below 0", x.bothAt(0, 1, -1), 1);
        Due.refused(x, "34 itself", x.bothAt(1, 1, 0), 1);
        Due.refused(x, "34", x.bothAt(1, 2, 0), 1);
        x.drop(1, 0);
        Due.refused(x, "33 none", x.both(0, 1), 6);
        Due.refused(x, "34 none", x.bothAt(0, 1, 0), 6);
    }

    private static void parting() {
        NestedChecker x = with(BASE);
        Due.fine(x, "35", x.parting(0, 1), 3);
        Due.fine(x, "35 of none", x.parting(1, 0), 0);
        int[] word = {0, 2, 1};
        for (int k = 0; k < 3; k++) {
            Due.fine(x, "36", x.partingAt(0, 1, k), word[k]);
        }
        Due.refused(x, "36 no such", x.partingAt(0, 1, 3), 6);
        Due.refused(x, "36 no such", x.partingAt(1, 0, 0), 6);
        Due.refused(x, "36 k below 0", x.partingAt(0, 1, -1), 1);
        Due.refused(x, "35 itself", x.parting(0, 0), 1);
        Due.refused(x, "36 itself", x.partingAt(1, 1, 0), 1);
        Due.refused(x, "35", x.parting(0, 2), 1);
        x.copy(0, 1);
        Due.refused(x, "35 none", x.parting(0, 1), 6);
        Due.refused(x, "36 none", x.partingAt(0, 1, 0), 6);
    }

    private static void missing() {
        NestedChecker x = with(BASE);
        Due.fine(x, "37 of none", x.missing(0), 0);
        Due.fine(x, "37", x.missing(1), 1);
        Due.fine(x, "38 the first", x.missingAt(1, 0), 1);
        Due.refused(x, "38 no such", x.missingAt(1, 1), 6);
        Due.refused(x, "38 no such", x.missingAt(0, 0), 6);
        Due.refused(x, "38 k below 0", x.missingAt(1, -1), 1);
        Due.refused(x, "37", x.missing(2), 1);
        Due.refused(x, "38", x.missingAt(2, 0), 1);
        x.add(1, 1, 0, 0, -1);
        Due.fine(x, "38 the next", x.missingAt(1, 0), 2);
        x.add(1, 2, 0, 0, -1);
        Due.refused(x, "37 none", x.missing(1), 6);
        Due.refused(x, "38 none", x.missingAt(1, 0), 6);
        NestedChecker y = with("call c;automaton 3 symbols 1;start 0;accept 0 1;rule c 0 1 push 0;rule c 1 2 push 0;rule c 2 0 push 0;");
        Due.fine(y, "37 c c", y.missing(0), 2);
        Due.fine(y, "38 c c", y.missingAt(0, 1), 0);
    }

    private static void includes() {
        NestedChecker x = with(BASE);
        Due.fine(x, "39", x.includes(0, 1), 0);
        Due.fine(x, "39", x.includes(1, 0), 0);
        x.drop(0, 3);
        Due.fine(x, "39 the second one takes all", x.includes(0, 1), 1);
        Due.fine(x, "39 the second one takes all", x.includes(1, 0), 0);
        Due.refused(x, "39 itself", x.includes(0, 0), 1);
        Due.refused(x, "39", x.includes(0, 2), 1);
        Due.refused(x, "39", x.includes(-1, 0), 1);
    }

    private static void equal() {
        NestedChecker x = with(BASE);
        Due.fine(x, "40", x.equal(0, 1), 0);
        x.drop(0, 3);
        Due.fine(x, "40 one way alone", x.equal(0, 1), 0);
        Due.fine(x, "40 one way alone", x.equal(1, 0), 0);
        x.copy(1, 0);
        Due.fine(x, "40", x.equal(0, 1), 1);
        Due.refused(x, "40 itself", x.equal(1, 1), 1);
        Due.refused(x, "40", x.equal(1, 2), 1);
        // The same words by unlike RULES.
        NestedChecker y = with("inner i;automaton 1 symbols 1;start 0;accept 0;rule i 0 0;"
                + "automaton 2 symbols 1;start 0;accept 0 1;rule i 0 1;rule i 1 0;");
        Due.fine(y, "40 the same words", y.equal(0, 1), 1);
    }

    // ---- how many words, 41 to 45

    private static void count() {
        NestedChecker x = with(BASE);
        int[] counts = {0, 0, 1, 3};
        for (int n = 0; n < 4; n++) {
            Due.fine(x, "41", x.count(0, n), counts[n]);
        }
        Due.refused(x, "41", x.count(0, -1), 1);
        Due.refused(x, "41", x.count(0, 7), 1);
        Due.refused(x, "41", x.count(2, 0), 1);
        // All words of six LETTERS, each once though by many RUNS.
        NestedChecker y = with("call a;call b;ret c;ret d;inner e;inner f;automaton 2 symbols 1;start 0 1;accept 0 1;"
                + "rule a 0 0 push 0;rule b 0 0 push 0;rule c 0 0 pop 0;rule d 0 0 pop 0;rule c 0 0 empty;rule d 0 0 empty;rule e 0 0;rule f 0 0;"
                + "rule e 0 1;rule e 1 0;rule f 1 1;rule a 1 1 push 0;rule c 1 1 pop 0;");
        Due.fine(y, "41 all", y.count(0, 6), 46656);
        Due.fine(y, "42 all", y.share(0, 6));
        Due.fraction(y, "42 all", 1, 1);
        NestedChecker z = with("automaton 1 symbols 1;start 0;accept 0;");
        Due.fine(z, "41 no letters", z.count(0, 0), 1);
        Due.fine(z, "41 no letters", z.count(0, 3), 0);
    }

    private static void share() {
        NestedChecker x = with(BASE);
        Due.fine(x, "42", x.share(0, 2));
        Due.fraction(x, "42", 1, 9);
        Due.fine(x, "42", x.share(0, 3));
        Due.fraction(x, "42", 1, 9);
        Due.fine(x, "42 of none", x.share(1, 0));
        Due.fraction(x, "42 of none", 1, 1);
        Due.denied(x, "42", x.share(0, -1), 1);
        Due.denied(x, "42", x.share(2, 0), 1);
        NestedChecker z = with("automaton 1 symbols 1;start 0;accept 0;");
        Due.denied(z, "42 no such words", z.share(0, 1), 6);
        Due.fine(z, "42 the word of none", z.share(0, 0));
        Due.fraction(z, "42 the word of none", 1, 1);
    }

    private static void lastAt() {
        NestedChecker x = with(BASE);
        int[] word = {2, 0, 1};
        for (int k = 0; k < 3; k++) {
            Due.fine(x, "43", x.lastAt(0, 3, k), word[k]);
        }
        Due.refused(x, "43 none is", x.lastAt(0, 1, 0), 6);
        Due.refused(x, "43", x.lastAt(0, 0, 0), 1);
        Due.refused(x, "43", x.lastAt(0, 7, 0), 1);
        Due.refused(x, "43", x.lastAt(0, 3, 3), 1);
        Due.refused(x, "43", x.lastAt(0, 3, -1), 1);
        Due.refused(x, "43", x.lastAt(2, 3, 0), 1);
        int[] six = {2, 2, 2, 2, 0, 1};
        for (int k = 0; k < 6; k++) {
            Due.fine(x, "43 six", x.lastAt(0, 6, k), six[k]);
        }
        for (int k = 0; k < 6; k++) {
            Due.fine(x, "43 second", x.lastAt(1, 6, k), k % 2);
        }
    }

    private static void sample() {
        NestedChecker x = with(BASE);
        Due.denied(x, "44", x.sample(4, 0, 0), 1);
        Due.denied(x, "44", x.sample(0, 21, 0), 1);
        Due.denied(x, "44", x.sample(0, -1, 0), 1);
        Due.denied(x, "44", x.sample(0, 0, -1), 1);
        Due.denied(x, "44", x.sample(0, 0, 10000), 1);
        Due.denied(x, "44 missing", x.sample(0, 0, 0), 2);
        x.tray(0, 1, 4);
        x.write(0, 3, 77);
        Due.denied(x, "44 too few", x.sample(0, 5, 0), 3);
        Due.fine(x, "44", x.sample(0, 3, 0));
        // s: 11519, 60200, 35735; by 8: 1439, 7525, 4466; by 3 the rests are 2, 1, 2.
        Due.is("44", digits(x, 3), 212);
        Due.fine(x, "44 the rest stays", x.read(0, 3), 77);
        Due.fine(x, "44", x.sample(0, 1, 9999));
        // 9999 * 3287 + 11519 = 32878232, by 65536 there is 44696 left; by 8: 5587; by 3: 1.
        Due.fine(x, "44", x.read(0, 0), 1);
        NestedChecker y = new NestedChecker();
        y.tray(0, 0, 2);
        Due.fine(y, "44 none of no letters", y.sample(0, 0, 5));
        Due.denied(y, "44 no letters", y.sample(0, 1, 5), 6);
        Due.denied(y, "44 too few, ahead of no letters", y.sample(0, 3, 5), 3);
    }

    private static void chance() {
        NestedChecker x = with("inner i;inner j;automaton 2 symbols 1;start 0;accept 1;rule i 0 1;");
        // s: 11519, 60200, 35735, 31952; by 8: 1439, 7525, 4466, 3994; by 2 the rests are 1, 1, 0, 0.
        Due.fine(x, "45", x.chance(0, 1, 3, 0));
        Due.fraction(x, "45 one of three", 1, 3);
        Due.fine(x, "45", x.chance(0, 1, 4, 0));
        Due.fraction(x, "45 two of four", 1, 2);
        Due.fine(x, "45 one behind the other", x.chance(0, 2, 2, 0));
        Due.fraction(x, "45 none", 0, 1);
        Due.fine(x, "45 of no letters", x.chance(0, 0, 50, 9999));
        Due.fraction(x, "45 of no letters", 0, 1);
        x.accept(0, 0, true);
        Due.fine(x, "45 all", x.chance(0, 0, 50, 9999));
        Due.fraction(x, "45 all", 1, 1);
        Due.fine(x, "45 the longest", x.chance(0, 20, 50, 9999));
        Due.denied(x, "45", x.chance(1, 0, 1, 0), 1);
        Due.denied(x, "45", x.chance(0, -1, 1, 0), 1);
        Due.denied(x, "45", x.chance(0, 21, 1, 0), 1);
        Due.denied(x, "45", x.chance(0, 0, 0, 0), 1);
        Due.denied(x, "45", x.chance(0, 0, 51, 0), 1);
        Due.denied(x, "45", x.chance(0, 0, 1, -1), 1);
        Due.denied(x, "45", x.chance(0, 0, 1, 10000), 1);
        NestedChecker z = with("automaton 1 symbols 1;start 0;accept 0;");
        Due.denied(z, "45 no letters", z.chance(0, 1, 1, 0), 6);
        Due.fine(z, "45 of none", z.chance(0, 0, 3, 0));
        Due.fraction(z, "45 of none", 1, 1);
    }

    // ---- the MONITOR, 46 to 49

    private static void watch() {
        NestedChecker x = with(BASE);
        Due.refused(x, "46", x.watch(2), 1);
        Due.refused(x, "46", x.watch(-1), 1);
        Due.refused(x, "46 refused watches none", x.seen(0), 6);
        Due.fine(x, "46", x.watch(0), 0);
        Due.fine(x, "46", x.watch(1), 1);
        x.see(0);
        Due.refused(x, "46", x.watch(2), 1);
        Due.fine(x, "46 refused changes nothing", x.seen(1), 1);
        Due.fine(x, "46 anew", x.watch(1), 1);
        Due.fine(x, "46 saw nothing", x.seen(1), 0);
        Due.fine(x, "46 saw nothing", x.seen(2), 0);
    }

    private static void see() {
        NestedChecker x = with(BASE);
        Due.refused(x, "47 watches none", x.see(0), 6);
        Due.refused(x, "47 no such letter, ahead of that", x.see(3), 1);
        x.watch(0);
        Due.refused(x, "47 letter", x.see(3), 1);
        Due.refused(x, "47 letter", x.see(-1), 1);
        int[] word = {0, 2, 0, 1, 1, 1};
        int[] taken = {0, 0, 0, 1, 1, 0};
        for (int i = 0; i < word.length; i++) {
            Due.fine(x, "47 see " + i, x.see(word[i]), taken[i]);
        }
        x.watch(1);
        for (int i = 0; i < 30; i++) {
            Due.fine(x, "47 thirty", x.see(0), 1);
        }
        Due.refused(x, "47 a 31st", x.see(0), 4);
        Due.fine(x, "47 it saw no more", x.seen(1), 30);
        Due.fine(x, "47 back", x.see(1), 1);
        Due.fine(x, "47 again", x.see(0), 1);
        Due.refused(x, "47 a 31st", x.see(0), 4);
        seeByRulesAsTheyAre();
    }

    private static void seeByRulesAsTheyAre() {
        NestedChecker x = with(BASE);
        x.watch(0);
        x.see(0);
        x.drop(0, 1);
        Due.fine(x, "47 the rule is no more", x.see(1), 0);
        Due.fine(x, "47 R", x.seen(3), 0);
        x = with(BASE);
        x.watch(0);
        x.see(0);
        // The CALL's RULE is asked for again at its RETURN.
        x.drop(0, 0);
        Due.fine(x, "47 R stays", x.seen(3), 1);
        Due.fine(x, "47 the call's rule is no more", x.see(1), 0);
        x = with(BASE);
        x.watch(0);
        x.see(2);
        x.start(0, 0, false);
        Due.fine(x, "47 below as it was", x.see(0), 0);
        Due.fine(x, "47 below as it was", x.see(1), 1);
        x.accept(0, 1, false);
        Due.fine(x, "48 accepts as they are", x.seen(4), 0);
    }

    private static void seen() {
        NestedChecker x = with(BASE);
        Due.refused(x, "48", x.seen(5), 1);
        Due.refused(x, "48", x.seen(-1), 1);
        Due.refused(x, "48 watches none", x.seen(0), 6);
        x.watch(1);
        Due.fine(x, "48", x.seen(0), 1);
        x.watch(0);
        int[] word = {2, 0, 0, 1};
        for (int l : word) {
            x.see(l);
        }
        int[] all = {0, 4, 1, 2, 1};
        for (int what = 0; what < 5; what++) {
            Due.fine(x, "48 " + what, x.seen(what), all[what]);
        }
        x.see(2);
        int[] then = {0, 5, 1, 0, 0};
        for (int what = 0; what < 5; what++) {
            Due.fine(x, "48 " + what, x.seen(what), then[what]);
        }
    }

    private static void doomed() {
        NestedChecker x = with(BASE);
        Due.refused(x, "49 watches none", x.doomed(), 6);
        x.watch(0);
        Due.fine(x, "49", x.doomed(), 0);
        x.see(0);
        Due.fine(x, "49", x.doomed(), 0);
        x.see(1);
        Due.fine(x, "49 taken already", x.doomed(), 0);
        x.see(2);
        Due.fine(x, "49 no way on", x.doomed(), 1);
        x.see(0);
        Due.fine(x, "49 no way on", x.doomed(), 1);
        x.add(0, 2, 1, 1, -1);
        Due.fine(x, "49 what is gone is gone", x.doomed(), 1);
        x.watch(0);
        x.see(0);
        x.drop(0, 1);
        Due.fine(x, "49 by rules as they are", x.doomed(), 1);
        x.accept(0, 0, true);
        Due.fine(x, "49 accepts as they are", x.doomed(), 0);
        // Saved only by way of the RETURN, with what is below the CALL.
        NestedChecker y = with("call c;ret r;inner i;automaton 3 symbols 2;start 0;accept 2;"
                + "rule c 0 1 push 0;rule c 0 1 push 1;rule i 1 1;rule r 1 2 pop 1;");
        y.watch(0);
        y.see(0);
        y.see(2);
        Due.fine(y, "49 by the return", y.doomed(), 0);
        y.see(1);
        Due.fine(y, "49 taken", y.doomed(), 0);
        y.see(0);
        Due.fine(y, "49 no more", y.doomed(), 1);
        thirtyPending();
        savedByTwoReturns();
    }

    // Both RETURNS must come, each with what is below its own CALL.
    private static void savedByTwoReturns() {
        NestedChecker y = with("call c;call d;ret r;ret s;automaton 3 symbols 1;start 0;accept 2;"
                + "rule d 0 0 push 0;rule r 0 1 pop 0;rule r 1 2 pop 0;");
        y.watch(0);
        y.see(1);
        y.see(1);
        Due.fine(y, "49 r r", y.doomed(), 0);
        y.see(2);
        Due.fine(y, "49 r", y.doomed(), 0);
        y.see(3);
        Due.fine(y, "49 s", y.doomed(), 1);
        Due.fine(y, "30 d d r r", y.reaches(0), 7);
        NestedChecker x = with("call c;call d;ret r;ret s;inner i;automaton 3 symbols 3;start 0;accept 2;"
                + "rule c 0 0 push 0;rule d 0 1 push 1;rule r 1 0 pop 1;rule s 0 2 pop 0;rule i 0 0;rule d 0 0 push 2;");
        x.watch(0);
        x.see(0);
        x.see(4);
        x.see(1);
        Due.fine(x, "49 d in c", x.doomed(), 0);
        x.mark();
        x.see(2);
        Due.fine(x, "49 c is left", x.doomed(), 0);
        x.see(2);
        Due.fine(x, "49 another return", x.doomed(), 1);
        x.watch(0);
        x.see(1);
        x.see(0);
        Due.fine(x, "49 c in d", x.doomed(), 0);
        x.see(3);
        Due.fine(x, "49 taken", x.seen(4), 1);
        x.see(2);
        Due.fine(x, "49 nothing POPS it", x.doomed(), 1);
        Due.fine(x, "51 undo", x.undo(), 0);
        Due.fine(x, "51 the stack is as it was", x.doomed(), 0);
        Due.fine(x, "51 the stack is as it was", x.see(2), 0);
        Due.fine(x, "51 the stack is as it was", x.see(3), 1);
    }

    // At thirty PENDING nothing more can be seen, but a 31st would be TAKEN.
    private static void thirtyPending() {
        NestedChecker x = with("call c;call d;automaton 2 symbols 1;start 0;accept 1;rule c 0 0 push 0;rule d 0 1 push 0;");
        x.watch(0);
        for (int i = 0; i < 30; i++) {
            x.see(0);
        }
        Due.fine(x, "49 however many are pending", x.doomed(), 0);
    }

    // ---- MARKS, 50 and 51

    private static void mark() {
        NestedChecker x = new NestedChecker();
        for (int i = 1; i <= 3; i++) {
            Due.fine(x, "50", x.mark(), i);
        }
        Due.refused(x, "50 a fourth", x.mark(), 4);
        Due.fine(x, "51", x.undo(), 2);
        Due.fine(x, "50 again", x.mark(), 3);
    }

    private static void undo() {
        NestedChecker x = with(BASE);
        Due.refused(x, "51 none", x.undo(), 6);
        x.watch(0);
        x.see(0);
        x.mark();
        x.see(1);
        x.add(0, 2, 1, 1, -1);
        x.accept(1, 0, false);
        x.tray(0, 0, 3);
        x.write(0, 1, 9);
        x.share(0, 2);
        x.feed(0, 0, 0, 0, 0);
        x.mark();
        x.copy(1, 0);
        Due.tell(x, "inner x;");
        x.mark();
        Due.fine(x, "51 two left", x.undo(), 2);
        Due.is("51 the text's letters stay", x.told(2), 1);
        Due.fine(x, "51 one left", x.undo(), 1);
        Due.is("51 as at the second mark", x.automaton(0, 4), 5);
        Due.is("51 as at the second mark", x.automaton(1, 3), 0);
        Due.fine(x, "51 the monitor", x.seen(1), 2);
        Due.fine(x, "51 the monitor", x.seen(4), 1);
        Due.fine(x, "51 none left", x.undo(), 0);
        Due.is("51 as at the first mark", x.automaton(0, 4), 4);
        Due.is("51 as at the first mark", x.automaton(1, 3), 1);
        Due.fine(x, "51 the monitor", x.seen(1), 1);
        Due.fine(x, "51 the monitor's stack", x.seen(2), 1);
        Due.fine(x, "51 trays are not taken back", x.read(0, 1), 9);
        Due.fraction(x, "51 the fraction is not taken back", 1, 9);
        Due.refused(x, "51 none", x.undo(), 6);
        Due.fine(x, "51 the monitor goes on", x.see(1), 1);
        undoAgain();
    }

    // A MARK behind an undo keeps its own; CALLS can be told on as ever.
    private static void undoAgain() {
        NestedChecker x = with(BASE);
        for (int i = 0; i < 3; i++) {
            x.mark();
            Due.fine(x, "51 again", x.add(0, 0, 1, 0, 0), 5);
            x.drop(0, 0);
            x.start(0, 1, true);
            Due.fine(x, "51 again", x.reaches(0), 3);
            Due.fine(x, "51 again", x.shortest(0), 0);
            Due.fine(x, "51 again", x.undo(), 0);
            Due.is("51 again", x.automaton(0, 4), 4);
            Due.is("51 again", x.automaton(0, 2), 1);
            Due.fine(x, "51 again", x.shortest(0), 2);
        }
        x.start(0, 0, false);
        x.start(0, 1, true);
        x.add(0, 0, 1, 0, 0);
        Due.word(x, 0, 0);
        Due.fine(x, "51 a call's rule told behind", x.ends(0, 0, 1), 1);
    }

    // Whatever is asked of an object without anything, an answer comes.
    private static void everyCallOnANewObject() {
        NestedChecker x = new NestedChecker();
        int[] odd = {MIN, -2, -1, 0, 1, 2, 3, 5, 21, 61, MAX};
        for (int a : odd) {
            for (int b : odd) {
                for (NestedChecker y : new NestedChecker[] {x, with(BASE), with("automaton 3 symbols 3;start 0;")}) {
                    askAll(y, a, b);
                }
            }
        }
    }

    private static void askAll(NestedChecker x, int a, int b) {
        int c = a ^ b;
        x.tray(a, b, c);
        x.write(a, b, c);
        x.read(a, b);
        x.pour(a, b, b, a, c);
        x.checker(a);
        x.fault(a);
        x.told(a);
        x.automaton(a, b);
        x.rule(a, b, c);
        x.add(a, b, c, a, b);
        x.drop(a, b);
        x.start(a, b, true);
        x.accept(a, b, false);
        x.copy(a, b);
        x.takes(a, b, c);
        x.ends(a, b, c);
        x.runs(a, b, c);
        x.depth(a, b, c);
        x.partner(a, b, c);
        x.table(a);
        x.summary(a, b, c);
        x.next(a, b, c);
        x.nextBack(a, b, c, a, b);
        x.well(a, b, c);
        x.reaches(a);
        x.shortest(a);
        x.shortestAt(a, b);
        x.both(a, b);
        x.bothAt(a, b, c);
        x.parting(a, b);
        x.partingAt(a, b, c);
        x.missing(a);
        x.missingAt(a, b);
        x.includes(a, b);
        x.equal(a, b);
        x.count(a, b);
        x.share(a, b);
        x.lastAt(a, b, c);
        x.sample(a, b, c);
        x.chance(a, b, c, a);
        x.watch(a);
        x.see(b);
        x.seen(c);
        x.doomed();
        x.mark();
        x.undo();
        Due.is("bottom is above 0", x.bottom() > 0, true);
    }
}

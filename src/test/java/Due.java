/** What the tests share: answers that are due, and texts that come to the tape. */
final class Due {
    private static int asked = 0;
    private static int wrong = 0;

    static void is(String what, long got, long want) {
        asked++;
        if (got != want) {
            wrong++;
            if (wrong <= 40) {
                System.out.println(what + " answered " + got + ", due is " + want);
            }
        }
    }

    static void is(String what, boolean got, boolean want) {
        is(what, got ? 1 : 0, want ? 1 : 0);
    }

    /** A call that is refused: NONE, and such a STATUS. */
    static void refused(NestedChecker x, String what, long got, int status) {
        is(what, got, -1);
        is(what + " STATUS", x.status(), status);
    }

    static void denied(NestedChecker x, String what, boolean got, int status) {
        is(what, got, false);
        is(what + " STATUS", x.status(), status);
    }

    static void fine(NestedChecker x, String what, long got, long want) {
        is(what, got, want);
        is(what + " STATUS", x.status(), 0);
    }

    static void fine(NestedChecker x, String what, boolean got) {
        is(what, got, true);
        is(what + " STATUS", x.status(), 0);
    }

    static void fraction(NestedChecker x, String what, long top, long bottom) {
        is(what + " top", x.top(), top);
        is(what + " bottom", x.bottom(), bottom);
    }

    static int tell(NestedChecker x, String text) {
        int n = text.length();
        for (int i = 0; i < n; i += 20) {
            x.feed(four(text, i), four(text, i + 4), four(text, i + 8), four(text, i + 12), four(text, i + 16));
        }
        return x.checker(n);
    }

    private static int four(String text, int at) {
        int v = 0;
        for (int i = at; i < at + 4; i++) {
            v = v << 8 | (i < text.length() ? text.charAt(i) & 255 : 0);
        }
        return v;
    }

    static void word(NestedChecker x, int tray, int... letters) {
        x.tray(tray, 0, letters.length);
        for (int i = 0; i < letters.length; i++) {
            x.write(tray, i, letters[i]);
        }
    }

    static void end(String test) {
        System.out.println(test + ": " + asked + " answers, " + wrong + " not as due");
        if (wrong != 0) {
            System.exit(1);
        }
    }
}

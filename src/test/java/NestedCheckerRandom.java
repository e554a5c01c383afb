import java.lang.reflect.Method;
import java.util.ArrayList;
import java.util.Arrays;
import java.util.HashMap;
import java.util.List;
import java.util.Map;
import java.util.Random;

/**
 * Runs of drawn calls (fixed seed), every answer and STATUS as the model of the whole face tells
 * them; numbers are drawn about the limits that the document names.
 */
public final class NestedCheckerRandom {
    private static final Random draw = new Random(5151L);

    // Each call with the sorts of its arguments; what a sort draws stands in drawOne.
    private static final String[] CALLS = {"tray TSM", "write TPV", "read TP", "pour TPTPP", "feed 00000", "checker n",
        "fault w", "told w", "automaton Aw", "rule Akw", "add ALQQG", "add ALQQG", "drop Ak", "start AQb", "accept AQb",
        "copy AA", "takes ATn", "ends ATn", "runs ATn", "depth Tnw", "partner TnK", "table A", "summary Akw", "next AkL",
        "nextBack AkLkL", "well AQQ", "reaches A", "shortest A", "shortestAt AK", "both AA", "bothAt AAK", "parting AA",
        "partingAt AAK", "missing A", "missingAt AK", "includes AA", "equal AA", "count Ac", "share Ac", "lastAt AcK",
        "sample Tns", "sample Tns", "sample Tns", "chance Anms", "watch A", "see L", "see L", "see L", "seen w", "doomed ", "mark ", "undo "};

    private static final Map<String, Method> face = new HashMap<>();
    private static final Map<String, Method> model = new HashMap<>();
    private static final Map<String, Integer> asked = new HashMap<>();
    private static int unknown;

    public static void main(String[] args) throws ReflectiveOperationException {
        int many = args.length > 0 ? Integer.parseInt(args[0]) : 300;
        for (Method m : NestedChecker.class.getDeclaredMethods()) {
            face.put(m.getName(), m);
        }
        for (Method m : Model.class.getDeclaredMethods()) {
            model.put(m.getName(), m);
        }
        for (int i = 0; i < many; i++) {
            runOf(i);
        }
        for (String call : CALLS) {
            String name = call.substring(0, call.indexOf(' '));
            Due.is(name + " was both answered and refused, if many were drawn", asked.getOrDefault(name, 0),
                    many < 300 ? asked.getOrDefault(name, 0) : canBeRefused(name) ? 3 : 1);
        }
        Due.is("most was known: " + unknown, unknown < 3 * many, true);
        Due.end("NestedCheckerRandom");
    }

    private static boolean canBeRefused(String name) {
        return !name.equals("feed") && !name.equals("fault");
    }

    // An object is used for at most 512 calls: some 45 to tell the text, some 4 for each step.
    private static void runOf(int run) throws ReflectiveOperationException {
        NestedChecker x = new NestedChecker();
        Model y = new Model();
        List<String> ahead = new ArrayList<>();
        String text = NestedCheckerAgainstPlain.drawChecker().text();
        if (run % 16 != 0) {
            tellBoth(x, y, text, ahead);
        }
        for (int step = 0; step < 100; step++) {
            if (draw.nextInt(60) == 0) {
                tellBoth(x, y, draw.nextInt(2) == 0 ? NestedCheckerTexts.drawText(draw) : text, ahead);
            } else {
                ask(x, y, CALLS[draw.nextInt(CALLS.length)], "run " + run + " " + text + " " + ahead, ahead);
            }
        }
    }

    private static void tellBoth(NestedChecker x, Model y, String text, List<String> ahead) {
        ahead.add("tell " + text);
        for (int i = 0; i < text.length(); i += 20) {
            int[] f = new int[5];
            for (int k = 0; k < 20; k++) {
                f[k / 4] = f[k / 4] << 8 | (i + k < text.length() ? text.charAt(i + k) & 255 : 32);
            }
            Due.is("feed", x.feed(f[0], f[1], f[2], f[3], f[4]), y.feed(f[0], f[1], f[2], f[3], f[4]));
        }
        Due.is("checker of " + text, x.checker(text.length()), y.checker(text.length()));
        Due.is("STATUS of " + text, x.status(), y.status());
        same(x, y, "checker of " + text);
    }

    private static void same(NestedChecker x, Model y, String at) {
        Due.is(at + " top", x.top(), y.top());
        Due.is(at + " bottom", x.bottom(), y.bottom());
        Due.is(at + " fault", x.fault(0), y.fault(0));
        Due.is(at + " place", x.fault(1), y.fault(1));
    }

    private static void ask(NestedChecker x, Model y, String call, String at, List<String> ahead)
            throws ReflectiveOperationException {
        String name = call.substring(0, call.indexOf(' '));
        String sorts = call.substring(name.length() + 1);
        Object[] args = new Object[sorts.length()];
        for (int i = 0; i < args.length; i++) {
            args[i] = drawOne(sorts.charAt(i));
        }
        ahead.add(name + Arrays.toString(args));
        Object want = model.get(name).invoke(y, args);
        Object got = face.get(name).invoke(x, args);
        if (y.status() == -1) {
            unknown++;
            return;
        }
        String what = at + ": " + name + Arrays.toString(args);
        Due.is(what, number(got), number(want));
        Due.is(what + " STATUS", x.status(), y.status());
        if (got instanceof Boolean || name.equals("checker")) {
            same(x, y, what);
        }
        asked.merge(name, x.status() == 0 || !canBeRefused(name) ? 1 : 2, (a, b) -> a | b);
    }

    private static long number(Object answer) {
        return answer instanceof Boolean is ? is ? 1 : 0 : ((Number) answer).longValue();
    }

    // Mostly what can be, now and then what is just outside, seldom what is far outside.
    private static int near(int least, int most) {
        int how = draw.nextInt(40);
        if (how == 0) {
            return draw.nextBoolean() ? Integer.MIN_VALUE : Integer.MAX_VALUE;
        }
        if (how <= 2) {
            return draw.nextBoolean() ? least - 1 : most + 1;
        }
        return least + draw.nextInt(most - least + 1);
    }

    private static Object drawOne(char sort) {
        switch (sort) {
            case 'T':
                return near(0, 3);
            case 'S':
                return near(0, draw.nextBoolean() ? 0 : 3);
            case 'M':
                return draw.nextInt(8) == 0 ? near(59, 60) : near(0, 22);
            case 'P':
                return near(0, draw.nextBoolean() ? 4 : 20);
            case 'V':
                return draw.nextInt(6) == 0 ? draw.nextLong() : (long) near(0, 5);
            case '0':
                return draw.nextInt();
            case 'n':
                return near(0, draw.nextBoolean() ? 4 : 20);
            case 'w':
                return near(0, 4);
            case 'A':
                return near(0, 1);
            case 'k':
                return draw.nextBoolean() ? near(0, 5) : near(0, 19);
            case 'L':
                return near(0, draw.nextBoolean() ? 2 : 5);
            case 'Q':
                return near(0, 2);
            case 'G':
                return near(-1, 2);
            case 'b':
                return draw.nextBoolean();
            case 'K':
                return near(0, draw.nextBoolean() ? 2 : 8);
            case 'c':
                return draw.nextInt(8) == 0 ? near(0, 6) : near(0, 4);
            case 's':
                return near(0, 9999);
            default:
                return near(1, 50);
        }
    }
}

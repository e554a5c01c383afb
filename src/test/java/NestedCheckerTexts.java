import java.util.ArrayList;
import java.util.HashMap;
import java.util.HashSet;
import java.util.List;
import java.util.Map;
import java.util.Random;
import java.util.Set;
import java.util.TreeSet;
import java.util.regex.Matcher;
import java.util.regex.Pattern;

/**
 * Texts with slips, drawn with a fixed seed: FAULTS as a second reader tells them, which gathers at
 * each TOKEN all kinds that there are and takes the least.
 */
public final class NestedCheckerTexts {
    private static final Random draw = new Random(51L);
    private static final Pattern TOKEN = Pattern.compile("[a-z]+|[0-9]+|.", Pattern.DOTALL);
    private static final Set<String> KEYS = Set.of("call", "ret", "inner", "automaton", "symbols", "start", "accept",
            "rule", "push", "pop", "empty");
    private static final String[] SLIPS = {"call", "ret", "inner", "automaton", "symbols", "start", "accept", "rule",
        "push", "pop", "empty", ";", ";", ";", "c", "r", "i", "x", "abcdefgh", "abcdefghi", "0", "1", "2", "3", "4", "00",
        "0001", "9999", "10000", "123456", "!", "\t", "C", "\u00e9", "\n", "  ", "start 0;", "accept 1;", "inner x;",
        "rule i 0 0;", "automaton 2 symbols 2;", "call d;", "ret s;"};

    private static final class Bad extends RuntimeException {
        private static final long serialVersionUID = 1L;
        final int kind;
        final int place;

        Bad(int kind, int place) {
            super("fault " + kind + " at " + place);
            this.kind = kind;
            this.place = place;
        }
    }

    private final String text;
    private final List<String> tokens = new ArrayList<>();
    private final List<Integer> places = new ArrayList<>();
    private final Map<String, String> letters = new HashMap<>();
    private final Map<String, Integer> told = new HashMap<>();
    private int automata;
    private int states;
    private int symbols;
    private final Set<String> once = new HashSet<>();
    private int rules;
    private int at = -1;

    private NestedCheckerTexts(String text) {
        this.text = text;
        Matcher m = TOKEN.matcher(text);
        while (m.find()) {
            if (!m.group().equals(" ") && !m.group().equals("\n")) {
                tokens.add(m.group());
                places.add(m.start());
            }
        }
        tokens.add("");
        places.add(text.length());
    }

    public static void main(String[] args) {
        int[] kinds = new int[7];
        for (int i = 0; i < 30000; i++) {
            String text = drawText();
            Bad bad = null;
            NestedCheckerTexts reader = new NestedCheckerTexts(text);
            try {
                reader.readAll();
            } catch (Bad b) {
                bad = b;
            }
            NestedChecker x = new NestedChecker();
            int got = Due.tell(x, text);
            kinds[bad == null ? 0 : bad.kind]++;
            Due.is("checker of " + text, got, bad == null ? reader.automata : -1);
            Due.is("STATUS of " + text, x.status(), bad == null ? 0 : 9);
            Due.is("fault of " + text, x.fault(0), bad == null ? 0 : bad.kind);
            Due.is("place of " + text, x.fault(1), bad == null ? -1 : bad.place);
        }
        for (int kind = 0; kind < kinds.length; kind++) {
            Due.is("some texts of kind " + kind, kinds[kind] > 100, true);
        }
        Due.end("NestedCheckerTexts");
    }

    private static String drawText() {
        StringBuilder t = new StringBuilder("call c;ret r;inner i;automaton 2 symbols 2;start 0;accept 1 0;"
                + "rule c 0 1 push 1;rule r 1 0 pop 1;rule r 0 0 empty;rule i 1 1;");
        if (draw.nextInt(4) == 0) {
            t.append("automaton 1 symbols 1;start 0;rule i 0 0;");
        }
        for (int i = 0; draw.nextInt(3) == 0 && i < 18; i++) {
            for (int j = 0; j < 6; j++) {
                t.append("rule c ").append(draw.nextInt(2)).append(" ").append(draw.nextInt(2)).append(" push ").append(draw.nextInt(2)).append(";");
            }
        }
        if (draw.nextInt(12) == 0) {
            t = new StringBuilder("call c;ret r;inner i;automaton 3 symbols 3;");
            for (int k = 0; k < 20; k++) {
                t.append("rule c ").append(k % 3).append(" ").append(k / 3 % 3).append(" push ").append(k / 9).append(";");
            }
            t.append(draw.nextInt(2) == 0 ? "rule c 0 0 push 0;" : "accept;");
        }
        List<String> parts = new ArrayList<>();
        Matcher m = TOKEN.matcher(t);
        while (m.find()) {
            parts.add(m.group());
        }
        for (int slips = draw.nextInt(4); slips > 0; slips--) {
            int k = draw.nextInt(parts.size());
            String slip = SLIPS[draw.nextInt(SLIPS.length)];
            switch (draw.nextInt(4)) {
                case 0:
                    parts.set(k, slip);
                    break;
                case 1:
                    parts.add(k, slip + " ");
                    break;
                case 2:
                    parts.remove(k);
                    break;
                default:
                    parts.add(k, " " + slip);
                    break;
            }
        }
        String text = String.join("", parts);
        int end = draw.nextInt(5) == 0 ? draw.nextInt(text.length() + 1) : text.length();
        return text.substring(0, Math.min(end, 900));
    }

    // ---- the second reader

    private String go() {
        at++;
        return tokens.get(at);
    }

    /** Fails with the least of the kinds, the TOKEN's own sort among them. */
    private void check(boolean stands, int... others) {
        TreeSet<Integer> kinds = new TreeSet<>();
        String t = tokens.get(at);
        if (!t.matches("[a-z]*|[0-9]{1,4}|;")) {
            kinds.add(1);
        }
        if (!stands || t.isEmpty()) {
            kinds.add(2);
        }
        for (int kind : others) {
            kinds.add(kind);
        }
        kinds.remove(0);
        if (!kinds.isEmpty()) {
            throw new Bad(kinds.first(), places.get(at));
        }
    }

    private static int when(boolean is, int kind) {
        return is ? kind : 0;
    }

    private void readAll() {
        while (!tokens.get(at + 1).isEmpty()) {
            String word = go();
            switch (word) {
                case "call":
                case "ret":
                case "inner":
                    readLetter(word);
                    break;
                case "automaton":
                    readAutomaton();
                    break;
                case "start":
                case "accept":
                    check(automata > 0);
                    readStates(word);
                    break;
                case "rule":
                    check(automata > 0, when(rules == 20, 6));
                    readRule();
                    break;
                default:
                    check(false);
            }
        }
    }

    private boolean isName(String t) {
        return t.matches("[a-z]{1,8}") && !KEYS.contains(t);
    }

    private void sign() {
        check(go().equals(";"));
    }

    private int number(int least, int most) {
        String t = go();
        boolean is = t.matches("[0-9]{1,4}");
        check(is, when(is && (Integer.parseInt(t) < least || Integer.parseInt(t) > most), 4));
        return Integer.parseInt(t);
    }

    private void readLetter(String sort) {
        int many = told.merge(sort, 1, Integer::sum);
        check(true, when(automata > 0, 5), when(many > 2, 6));
        String name = go();
        check(isName(name), when(letters.containsKey(name), 3));
        letters.put(name, sort);
        sign();
    }

    private void readAutomaton() {
        check(true, when(automata == 2, 6));
        states = number(1, 3);
        check(go().equals("symbols"));
        symbols = number(1, 3);
        automata++;
        rules = 0;
        once.clear();
        sign();
    }

    private void readStates(String what) {
        while (!tokens.get(at + 1).equals(";")) {
            int state = number(0, states - 1);
            check(true, when(!once.add(what + " " + state), 5));
        }
        sign();
    }

    private void readRule() {
        String name = go();
        check(isName(name), when(!letters.containsKey(name), 3));
        String rule = name + " " + number(0, states - 1) + " " + number(0, states - 1);
        String sort = letters.get(name);
        if (!sort.equals("inner")) {
            String word = go();
            check(sort.equals("call") ? word.equals("push") : word.equals("pop") || word.equals("empty"));
            rule += word + (word.equals("empty") ? "" : " " + number(0, symbols - 1));
        }
        String t = go();
        check(t.equals(";"), when(once.contains(rule), 5));
        once.add(rule);
        rules++;
    }
}

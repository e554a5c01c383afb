import java.util.ArrayList;
import java.util.HashSet;
import java.util.List;
import java.util.Set;
import java.util.TreeSet;
import java.util.regex.Matcher;
import java.util.regex.Pattern;

/**
 * A second reader of texts, which gathers at each TOKEN all kinds of FAULTS that there are and takes
 * the least; what it reads is a CHECKER in plain terms.
 */
final class PlainReader {
    static final Pattern TOKEN = Pattern.compile("[a-z]+|[0-9]+|.", Pattern.DOTALL);
    private static final List<String> SORTS = List.of("call", "ret", "inner");
    private static final Set<String> KEYS = Set.of("call", "ret", "inner", "automaton", "symbols", "start", "accept",
            "rule", "push", "pop", "empty");

    private static final class Bad extends RuntimeException {
        private static final long serialVersionUID = 1L;
        final int kind;
        final int place;

        Bad(int kind, int place) {
            super("fault " + kind + " at " + place);
            this.kind = kind;
            this.place = place;
        }
    }

    /** The FAULT, 0 without one, and its place, -1 without. */
    final int kind;
    final int place;
    final Plain made = new Plain();
    private final List<String> tokens = new ArrayList<>();
    private final List<Integer> places = new ArrayList<>();
    private final List<List<String>> names = List.of(new ArrayList<>(), new ArrayList<>(), new ArrayList<>());
    private final Set<String> once = new HashSet<>();
    private int at = -1;

    PlainReader(String text) {
        Matcher m = TOKEN.matcher(text);
        while (m.find()) {
            if (!m.group().equals(" ") && !m.group().equals("\n")) {
                tokens.add(m.group());
                places.add(m.start());
            }
        }
        tokens.add("");
        places.add(text.length());
        int badKind = 0;
        int badPlace = -1;
        try {
            readAll();
        } catch (Bad b) {
            badKind = b.kind;
            badPlace = b.place;
        }
        kind = badKind;
        place = badPlace;
    }

    private String go() {
        at++;
        return tokens.get(at);
    }

    /** Fails with the least of the kinds, the TOKEN's own sort among them. */
    private void check(boolean stands, int... others) {
        TreeSet<Integer> kinds = new TreeSet<>();
        String t = tokens.get(at);
        if (!t.matches("[a-z]*|[0-9]{1,4}|;")) {
            kinds.add(1);
        }
        if (!stands || t.isEmpty()) {
            kinds.add(2);
        }
        for (int other : others) {
            kinds.add(other);
        }
        kinds.remove(0);
        if (!kinds.isEmpty()) {
            throw new Bad(kinds.first(), places.get(at));
        }
    }

    private static int when(boolean is, int kind) {
        return is ? kind : 0;
    }

    private void readAll() {
        while (!tokens.get(at + 1).isEmpty()) {
            String word = go();
            switch (word) {
                case "call":
                case "ret":
                case "inner":
                    readLetter(SORTS.indexOf(word));
                    break;
                case "automaton":
                    readAutomaton();
                    break;
                case "start":
                case "accept":
                    check(!made.autos.isEmpty());
                    readStates(word);
                    break;
                case "rule":
                    check(!made.autos.isEmpty(), when(!made.autos.isEmpty() && latest().rules.size() == 20, 6));
                    readRule();
                    break;
                default:
                    check(false);
            }
        }
    }

    private Plain.Auto latest() {
        return made.autos.get(made.autos.size() - 1);
    }

    private static boolean isName(String t) {
        return t.matches("[a-z]{1,8}") && !KEYS.contains(t);
    }

    private int sortOf(String name) {
        for (int sort = 0; sort < 3; sort++) {
            if (names.get(sort).contains(name)) {
                return sort;
            }
        }
        return -1;
    }

    private void sign() {
        check(go().equals(";"));
    }

    private int number(int least, int most) {
        String t = go();
        boolean is = t.matches("[0-9]{1,4}");
        check(is, when(is && (Integer.parseInt(t) < least || Integer.parseInt(t) > most), 4));
        return Integer.parseInt(t);
    }

    private void readLetter(int sort) {
        check(true, when(!made.autos.isEmpty(), 5), when(names.get(sort).size() == 2, 6));
        String name = go();
        check(isName(name), when(sortOf(name) >= 0, 3));
        names.get(sort).add(name);
        made.calls = names.get(0).size();
        made.returns = names.get(1).size();
        made.inners = names.get(2).size();
        sign();
    }

    private void readAutomaton() {
        check(true, when(made.autos.size() == 2, 6));
        Plain.Auto a = new Plain.Auto();
        a.states = number(1, 3);
        check(go().equals("symbols"));
        a.symbols = number(1, 3);
        made.autos.add(a);
        once.clear();
        sign();
    }

    private void readStates(String what) {
        while (!tokens.get(at + 1).equals(";")) {
            int state = number(0, latest().states - 1);
            check(true, when(!once.add(what + " " + state), 5));
            if (what.equals("start")) {
                latest().starts += 1 << state;
            } else {
                latest().accepts += 1 << state;
            }
        }
        sign();
    }

    private void readRule() {
        String name = go();
        int sort = sortOf(name);
        check(isName(name), when(sort < 0, 3));
        int from = number(0, latest().states - 1);
        int to = number(0, latest().states - 1);
        int symbol = -1;
        if (sort < 2) {
            String word = go();
            check(sort == 0 ? word.equals("push") : word.equals("pop") || word.equals("empty"));
            symbol = word.equals("empty") ? -1 : number(0, latest().symbols - 1);
        }
        int ahead = sort == 0 ? 0 : sort == 1 ? made.calls : made.calls + made.returns;
        Plain.Rule rule = new Plain.Rule(ahead + names.get(sort).indexOf(name), from, to, symbol);
        String t = go();
        check(t.equals(";"), when(latest().rules.contains(rule), 5));
        latest().rules.add(rule);
    }
}

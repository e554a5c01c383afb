import java.util.ArrayList;
import java.util.List;
import java.util.Random;
import java.util.regex.Matcher;

/** Texts with slips, drawn with a fixed seed: FAULTS as the second reader tells them. */
public final class NestedCheckerTexts {
    private static final Random draw = new Random(51L);
    private static final String[] SLIPS = {"call", "ret", "inner", "automaton", "symbols", "start", "accept", "rule",
        "push", "pop", "empty", ";", ";", ";", "c", "r", "i", "x", "abcdefgh", "abcdefghi", "0", "1", "2", "3", "4", "00",
        "0001", "9999", "10000", "123456", "!", "\t", "C", "\u00e9", "\n", "  ", "start 0;", "accept 1;", "inner x;",
        "rule i 0 0;", "automaton 2 symbols 2;", "call d;", "ret s;"};

    public static void main(String[] args) {
        int[] kinds = new int[7];
        for (int i = 0; i < 30000; i++) {
            String text = drawText(draw);
            PlainReader reader = new PlainReader(text);
            NestedChecker x = new NestedChecker();
            int got = Due.tell(x, text);
            kinds[reader.kind]++;
            Due.is("checker of " + text, got, reader.kind == 0 ? reader.made.autos.size() : -1);
            Due.is("STATUS of " + text, x.status(), reader.kind == 0 ? 0 : 9);
            Due.is("fault of " + text, x.fault(0), reader.kind);
            Due.is("place of " + text, x.fault(1), reader.place);
        }
        for (int kind = 0; kind < kinds.length; kind++) {
            Due.is("some texts of kind " + kind, kinds[kind] > 100, true);
        }
        Due.end("NestedCheckerTexts");
    }

    static String drawText(Random draw) {
        StringBuilder t = new StringBuilder("call c;ret r;inner i;automaton 2 symbols 2;start 0;accept 1 0;"
                + "rule c 0 1 push 1;rule r 1 0 pop 1;rule r 0 0 empty;rule i 1 1;");
        if (draw.nextInt(4) == 0) {
            t.append("automaton 1 symbols 1;start 0;rule i 0 0;");
        }
        for (int i = 0; draw.nextInt(3) == 0 && i < 18; i++) {
            for (int j = 0; j < 6; j++) {
                t.append("rule c ").append(draw.nextInt(2)).append(" ").append(draw.nextInt(2)).append(" push ").append(draw.nextInt(2)).append(";");
            }
        }
        if (draw.nextInt(12) == 0) {
            t = new StringBuilder("call c;ret r;inner i;automaton 3 symbols 3;");
            for (int k = 0; k < 20; k++) {
                t.append("rule c ").append(k % 3).append(" ").append(k / 3 % 3).append(" push ").append(k / 9).append(";");
            }
            t.append(draw.nextInt(2) == 0 ? "rule c 0 0 push 0;" : "accept;");
        }
        List<String> parts = new ArrayList<>();
        Matcher m = PlainReader.TOKEN.matcher(t);
        while (m.find()) {
            parts.add(m.group());
        }
        for (int slips = draw.nextInt(4); slips > 0; slips--) {
            int k = draw.nextInt(parts.size());
            String slip = SLIPS[draw.nextInt(SLIPS.length)];
            switch (draw.nextInt(4)) {
                case 0:
                    parts.set(k, slip);
                    break;
                case 1:
                    parts.add(k, slip + " ");
                    break;
                case 2:
                    parts.remove(k);
                    break;
                default:
                    parts.add(k, " " + slip);
                    break;
            }
        }
        String text = String.join("", parts);
        int end = draw.nextInt(5) == 0 ? draw.nextInt(text.length() + 1) : text.length();
        return text.substring(0, Math.min(end, 900));
    }
}

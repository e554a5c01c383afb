import java.io.IOException;
import java.lang.reflect.Method;
import java.nio.file.Files;
import java.nio.file.Path;
import java.util.List;
import java.util.regex.Matcher;
import java.util.regex.Pattern;

/** What README.md says that the calls answer, and that its words on STATUS are the document's. */
public final class NestedCheckerReadme {
    private static final Path README = Path.of("README.md");
    private static final Pattern PART = Pattern.compile("^    ((call|automaton|rule) .*;)$");
    private static final Pattern CALL = Pattern.compile("^    x\\.(\\w+)\\((.*)\\); +// (-?\\d+|true|false)\\b.*$");

    public static void main(String[] args) throws IOException, ReflectiveOperationException {
        List<String> lines = Files.readAllLines(README);
        NestedChecker x = new NestedChecker();
        Due.fine(x, "README the text is taken", Due.tell(x, textOf(lines)), 2);
        int calls = 0;
        for (String line : lines) {
            Matcher call = CALL.matcher(line);
            if (call.matches()) {
                calls++;
                Due.is("README " + line.trim(), answer(x, call.group(1), call.group(2)), number(call.group(3)));
            }
        }
        long told = lines.stream().filter(line -> line.startsWith("    x.")).count();
        Due.is("README each of its calls has an answer", calls, told);
        Due.is("README has calls", calls > 20, true);
        everyStatus(lines);
        everyTest(lines);
        Due.end("NestedCheckerReadme");
    }

    private static String textOf(List<String> lines) {
        StringBuilder text = new StringBuilder();
        for (String line : lines) {
            Matcher part = PART.matcher(line);
            if (part.matches()) {
                text.append(part.group(1)).append('\n');
            }
        }
        return text.toString();
    }

    private static long number(String told) {
        return told.equals("true") ? 1 : told.equals("false") ? 0 : Long.parseLong(told);
    }

    private static long answer(NestedChecker x, String name, String numbers) throws ReflectiveOperationException {
        for (Method m : NestedChecker.class.getDeclaredMethods()) {
            if (m.getName().equals(name)) {
                Object got = m.invoke(x, arguments(m.getParameterTypes(), numbers));
                return got instanceof Boolean is ? is ? 1 : 0 : ((Number) got).longValue();
            }
        }
        throw new IllegalStateException("no such call: " + name);
    }

    private static Object[] arguments(Class<?>[] types, String numbers) {
        Object[] all = new Object[types.length];
        String[] told = numbers.split(", ");
        for (int i = 0; i < all.length; i++) {
            if (types[i] == boolean.class) {
                all[i] = Boolean.valueOf(told[i]);
            } else if (types[i] == long.class) {
                all[i] = Long.valueOf(told[i]);
            } else {
                all[i] = Integer.valueOf(told[i]);
            }
        }
        return all;
    }

    private static void everyStatus(List<String> lines) {
        for (int status = 0; status <= 9; status++) {
            String row = "| " + status + " | ";
            Due.is("README STATUS " + status, lines.stream().filter(line -> line.startsWith(row)).count(), 1);
        }
    }

    // Each test with a main is told of.
    private static void everyTest(List<String> lines) throws IOException {
        String all = String.join("\n", lines);
        try (var files = Files.list(Path.of("src/test/java"))) {
            for (Path file : files.toList()) {
                String name = file.getFileName().toString().replace(".java", "");
                Due.is("README tells of " + name, all.contains("`" + name + "`"), true);
            }
        }
    }
}

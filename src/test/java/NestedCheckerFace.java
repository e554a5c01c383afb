import java.io.IOException;
import java.lang.management.ManagementFactory;
import java.lang.reflect.Constructor;
import java.lang.reflect.Field;
import java.lang.reflect.Method;
import java.lang.reflect.Modifier;
import java.nio.file.Files;
import java.nio.file.Path;
import java.util.ArrayList;
import java.util.Collections;
import java.util.List;
import java.util.regex.Matcher;
import java.util.regex.Pattern;

/** The public face as the document has it, what of LANGUAGE.md can be seen, and the room. */
public final class NestedCheckerFace {
    private static final Path DOCUMENT = Path.of("../shared/DOC.md");
    private static final Path SOURCE = Path.of("src/main/java/NestedChecker.java");

    public static void main(String[] args) throws IOException {
        face();
        words();
        sizes();
        room();
        Due.end("NestedCheckerFace");
    }

    // Every "public ..;" of the document's class is there, and nothing more.
    private static void face() throws IOException {
        List<String> want = new ArrayList<>();
        Matcher m = Pattern.compile("(?m)^    (public .*);$").matcher(Files.readString(DOCUMENT));
        while (m.find()) {
            want.add(m.group(1).replaceAll(" \\w+(?=[,)])", "").replaceAll(" = .*", ""));
        }
        List<String> got = new ArrayList<>();
        List<String> open = new ArrayList<>();
        Class<?> c = NestedChecker.class;
        Due.is("the class is public and final", Modifier.isPublic(c.getModifiers()) && Modifier.isFinal(c.getModifiers()), true);
        for (Field f : c.getDeclaredFields()) {
            note(f.getModifiers(), Modifier.toString(f.getModifiers()) + " " + f.getType().getName() + " " + f.getName(), got, open);
        }
        for (Constructor<?> k : c.getDeclaredConstructors()) {
            note(k.getModifiers(), "public " + c.getName() + types(k.getParameterTypes()), got, open);
        }
        for (Method e : c.getDeclaredMethods()) {
            note(e.getModifiers(), "public " + e.getReturnType().getName() + " " + e.getName() + types(e.getParameterTypes()), got, open);
        }
        Collections.sort(want);
        Collections.sort(got);
        Due.is("the document's face has members", want.size() > 50, true);
        Due.is("the face: " + got + " for " + want, got.equals(want), true);
        Due.is("members neither public nor private: " + open, open.isEmpty(), true);
        for (Class<?> inner : c.getDeclaredClasses()) {
            int how = inner.getModifiers();
            Due.is(inner + " is static, neither public nor protected",
                    Modifier.isStatic(how) && !Modifier.isPublic(how) && !Modifier.isProtected(how), true);
            Due.is(inner + " has some twenty fields", inner.getDeclaredFields().length <= 30, true);
        }
        Due.is("some twelve classes", c.getDeclaredClasses().length <= 12, true);
        privateNames(c);
    }

    private static void note(int how, String member, List<String> got, List<String> open) {
        if (Modifier.isPublic(how)) {
            got.add(member);
        } else if (!Modifier.isPrivate(how)) {
            open.add(member);
        }
    }

    private static String types(Class<?>[] types) {
        StringBuilder t = new StringBuilder("(");
        for (Class<?> type : types) {
            t.append(t.length() > 1 ? ", " : "").append(type.getName());
        }
        return t.append(")").toString();
    }

    // Rule 1: no private method bears the name of a public one; here none of a class inside does.
    private static void privateNames(Class<?> c) {
        List<String> names = new ArrayList<>();
        for (Method m : c.getDeclaredMethods()) {
            if (Modifier.isPublic(m.getModifiers())) {
                names.add(m.getName());
            }
        }
        List<Method> others = new ArrayList<>(List.of(c.getDeclaredMethods()));
        for (Class<?> inner : c.getDeclaredClasses()) {
            others.addAll(List.of(inner.getDeclaredMethods()));
        }
        for (Method m : others) {
            if (!Modifier.isPublic(m.getModifiers())) {
                Due.is(m + " bears the name of a public one", names.contains(m.getName()), false);
            }
            Due.is(m + " has seven parameters at most", m.getParameterCount() <= 7, true);
        }
    }

    private static String code() throws IOException {
        return Files.readString(SOURCE)
                .replaceAll("(?s)/\\*.*?\\*/", " ")
                .replaceAll("//[^\n]*", " ")
                .replaceAll("\"[^\"\n]*\"", "\"\"");
    }

    // Rules 2, 4, 6, 13: what must not stand anywhere.
    private static void words() throws IOException {
        String code = code();
        String[] never = {"\\bthrow\\b", "\\bthrows\\b", "\\btry\\b", "\\bcatch\\b", "\\bsynchronized\\b", "\\bassert\\b",
            "->", "::", "\\binstanceof\\b", "\\w+Exact\\b", "\\bdouble\\b", "\\bfloat\\b", "\\bhashCode\\b", "\\btoString\\b",
            "\\bThread\\b", "\\bRandom\\b", "nanoTime", "currentTimeMillis", "\\bpackage\\b", "\\bprotected\\b", "@\\w+",
            "\\bwhile\\s*\\(\\s*true", "\\bstatic\\s*\\{"};
        for (String w : never) {
            Matcher m = Pattern.compile(w).matcher(code);
            Due.is("the source has " + w, m.find(), false);
        }
        Matcher m = Pattern.compile("(?m)^import (.*);").matcher(code);
        while (m.find()) {
            Due.is("import " + m.group(1), m.group(1).equals("java.util.Arrays"), true);
        }
        m = Pattern.compile("\\b(System|Math|Arrays)\\.(\\w+)").matcher(code);
        while (m.find()) {
            Due.is("use of " + m.group(), List.of("arraycopy", "max", "min", "fill").contains(m.group(2)), true);
        }
        m = Pattern.compile("(?m)^.*\\bstatic (?!final)(?![\\w\\[\\]]+ \\w+\\().*$").matcher(code);
        while (m.find()) {
            Due.is("static, not final: " + m.group(), false, true);
        }
        Due.is("signs of 1 to 127", Files.readString(SOURCE).chars().allMatch(ch -> ch >= 1 && ch <= 127), true);
    }

    // Rule 11: methods of some sixty lines.
    private static void sizes() throws IOException {
        int from = 0;
        int at = 0;
        for (String line : Files.readAllLines(SOURCE)) {
            at++;
            if (line.matches(" {4,8}\\w.*\\) \\{")) {
                from = at;
            } else if (line.matches(" {4,8}\\}")) {
                Due.is("lines " + from + " to " + at + " are one short method", from == 0 || at - from <= 60, true);
                from = 0;
            }
        }
    }

    // All calls of a run live in one room: a call makes nothing, an object little.
    private static void room() {
        com.sun.management.ThreadMXBean mx = (com.sun.management.ThreadMXBean) ManagementFactory.getThreadMXBean();
        long self = Thread.currentThread().getId();
        NestedChecker x = new NestedChecker();
        askMuch(x);
        long before = mx.getThreadAllocatedBytes(self);
        NestedChecker y = new NestedChecker();
        long made = mx.getThreadAllocatedBytes(self) - before;
        Due.is("an object takes " + made + " bytes", made < 200000, true);
        before = mx.getThreadAllocatedBytes(self);
        askMuch(y);
        long more = mx.getThreadAllocatedBytes(self) - before;
        Due.is("many calls take " + more + " bytes", more < 20000, true);
    }

    private static void askMuch(NestedChecker x) {
        Due.tell(x, "call c;call d;ret r;ret s;inner i;inner j;automaton 2 symbols 2;start 0;accept 1;"
                + "rule c 0 0 push 0;rule d 0 0 push 1;rule r 0 1 pop 0;rule s 1 0 pop 1;rule i 0 1;rule j 1 0;"
                + "automaton 2 symbols 1;start 0;accept 0;rule c 0 0 push 0;rule r 0 1 pop 0;rule i 1 0;");
        for (int i = 0; i < 20; i++) {
            x.start(0, 1, i % 2 == 0);
            x.table(0);
            x.parting(0, 1);
            x.parting(1, 0);
            x.both(0, 1);
            x.missing(0);
            x.well(0, 0, 1);
            x.count(0, 6);
            x.lastAt(0, 6, 0);
            x.chance(0, 20, 50, 3);
            x.mark();
            x.watch(0);
            x.see(0);
            x.doomed();
            x.undo();
            x.tray(0, 0, 60);
            x.runs(0, 0, 20);
            x.partner(0, 20, 3);
        }
    }
}

import java.io.IOException;
import java.lang.reflect.Method;
import java.lang.reflect.Modifier;
import java.nio.charset.StandardCharsets;
import java.nio.file.Files;
import java.nio.file.Path;
import java.util.List;
import java.util.Set;
import java.util.TreeSet;

/** The class keeps to LANGUAGE.md; and what looks at that finds what leaves each of its rules. */
final class LanguageTests {
    private static final Path SOURCE = Path.of("src", "main", "java", "Sortpocket.java");

    private final Tests tests;

    LanguageTests(Tests tests) {
        this.tests = tests;
    }

    void all() {
        try {
            String source = Files.readString(SOURCE, StandardCharsets.ISO_8859_1);
            tests.same("what leaves LANGUAGE.md", LanguageChecker.faultsOf("Sortpocket", source).toString(), "[]");
        } catch (IOException e) {
            tests.same("the source can be read", e.toString(), "");
        }
        namesOfTheFace();
        whatIsAllowed();
        whatIsRuledOut();
        whatTheMachineThrows();
        whatIsTooMuch();
    }

    private void namesOfTheFace() {
        Set<String> face = new TreeSet<>();
        for (Method method : Sortpocket.class.getDeclaredMethods()) {
            if (Modifier.isPublic(method.getModifiers())) {
                face.add(method.getName());
            }
        }
        for (Class<?> one : Sortpocket.class.getDeclaredClasses()) {
            for (Method method : one.getDeclaredMethods()) {
                tests.same("a name of the face: " + method, face.contains(method.getName()), false);
            }
        }
    }

    private static List<String> faultsOf(String members) {
        return LanguageChecker.faultsOf("Sample", "public final class Sample { " + members + " }");
    }

    private void allowed(String members) {
        tests.same("faults of " + members, faultsOf(members).toString(), "[]");
    }

    private void ruledOut(int rule, String members) {
        List<String> faults = faultsOf(members);
        boolean isFound = faults.stream().anyMatch(fault -> fault.startsWith("rule " + rule + ", "));
        tests.same("rule " + rule + " is left by " + members + ", " + faults, isFound, true);
    }

    private void whatIsAllowed() {
        allowed("");
        allowed("private static final int N = 3; private final int[] row = new int[N];");
        allowed("int at(int k) { return k >= 0 && k < row.length ? row[k] : -1; } private final int[] row = new int[3];");
        allowed("int part(int a, int b) { return b > 0 ? a / b : a % 10; }");
        allowed("private static final class One { int n; } private final One[] all = new One[4];"
            + " int sum() { int sum = 0; for (One one : all) { if (one != null) { sum += one.n; } } return sum; }");
        allowed("private static final class One { int n; } One at(int k) { return k < 0 ? null : new One(); }"
            + " int of(int k) { return numberOf(at(k)); } int numberOf(One one) { return one == null ? 0 : one.n; }");
        allowed("String text() { StringBuilder text = new StringBuilder(); text.append('a'); return text.toString(); }");
        allowed("void no() { throw new IllegalStateException(\"no\"); }");
    }

    private void whatIsRuledOut() {
        ruledOut(1, "int open;");
        ruledOut(2, "class Inside { }");
        ruledOut(2, "public static class Inside { }");
        ruledOut(2, "Runnable r() { return () -> { }; }");
        ruledOut(2, "Runnable r() { return this::go; } void go() { }");
        ruledOut(2, "Object o() { return new Object() { }; }");
        ruledOut(3, "private float f;");
        ruledOut(3, "private Object o;");
        ruledOut(3, "private int[][] rows;");
        ruledOut(3, "private final int[][] rows = new int[2][2];");
        ruledOut(4, "long now() { return System.nanoTime(); }");
        ruledOut(4, "int least(int a, int b) { return Math.addExact(a, b); }");
        ruledOut(4, "String text() { return \"\\u00e9\\u00e9\".trim(); }");
        ruledOut(4, "void go() { new Thread(); }");
        ruledOut(5, "private static int n;");
        ruledOut(5, "private static final StringBuilder TEXT = new StringBuilder();");
        ruledOut(5, "private static final int N; static { N = 1; }");
        ruledOut(6, "void go() { try { no(); } catch (RuntimeException e) { } } void no() { }");
        ruledOut(6, "void no() { throw new Error(); }");
        ruledOut(6, "void no(String text) { throw new IllegalStateException(text); }");
        ruledOut(6, "Sample() { throw new IllegalStateException(); }");
        ruledOut(6, "void go() { synchronized (this) { } }");
        ruledOut(6, "synchronized void go() { }");
        ruledOut(6, "void go(int n) { assert n > 0; }");
        ruledOut(6, "public String toString() { return \"\"; }");
        ruledOut(6, "boolean same(String a, String b) { return a == b; }");
        ruledOut(10, "String join(String a, int b) { return a + b; }");
        ruledOut(10, "String join(String a, String b) { String c = a; c += b; return c; }");
        ruledOut(12, "int[] row() { return new int[2]; }");
        ruledOut(12, "void go() { for (int k = 0; k < 9; k++) { new StringBuilder(); } }");
        ruledOut(12, "void go() { new StringBuilder(); new StringBuilder(); }");
    }

    private void whatTheMachineThrows() {
        String row = " private final int[] row = new int[3]; ";
        ruledOut(7, "int at(int k) { return row[k]; }" + row);
        ruledOut(7, "int at(int k) { return k < row.length ? row[k] : -1; }" + row);
        ruledOut(7, "int at(int k) { return k >= 0 ? row[k] : -1; }" + row);
        ruledOut(7, "int at(int k) { return k >= 0 && k < row.length ? row[k + 1] : -1; }" + row);
        ruledOut(7, "int part(int a, int b) { return a / b; }");
        ruledOut(7, "int rest(int a, int b) { int c = a; c %= b; return c; }");
        ruledOut(7, "int part(int a) { return a / 0; }");
        ruledOut(7, "private final int[] row; Sample(int n) { row = new int[n]; }");
        ruledOut(7, "private static final class One { int n; } private final One[] all = new One[4];"
            + " int sum() { int sum = 0; for (One one : all) { sum += one.n; } return sum; }");
        ruledOut(7, "private static final class One { int n; } private final One[] all = new One[4];"
            + " int of(int k) { return k >= 0 && k < all.length ? all[k].n : 0; }");
        ruledOut(7, "private static final class One { int n; } One at(int k) { return k < 0 ? null : new One(); }"
            + " int of(int k) { return at(k).n; }");
        ruledOut(7, "private static final class One { int n; } One at(int k) { return k < 0 ? null : new One(); }"
            + " int of(int k) { One one = at(k); return one.n; }");
        ruledOut(7, "private static final class One { int n; } One at(int k) { return k < 0 ? null : new One(); }"
            + " int of(int k) { return numberOf(at(k)); } int numberOf(One one) { return one.n; }");
        ruledOut(9, "void go() { while (true) { } }");
        ruledOut(9, "void go() { do { } while (true); }");
        ruledOut(9, "void go() { for (;;) { } }");
        ruledOut(9, "void go(int n) { for (int k = 0; k < n; k--) { } }");
        ruledOut(9, "void go(int n) { for (int k = 0; k != n; k++) { } }");
        ruledOut(9, "void go(int n) { for (int k = 0; k < n || n > 3; k++) { } }");
        ruledOut(9, "void go(int n) { for (int k = 0; k < n; k++) { k = 0; } }");
        ruledOut(9, "void go(int n) { for (int k = 0; k < n; k++) { k--; } }");
    }

    private void whatIsTooMuch() {
        ruledOut(11, "void go(int a, int b, int c, int d, int e, int f, int g, int h) { }");
        ruledOut(11, "void go() { " + "\n;".repeat(60) + " }");
        ruledOut(11, nested(12));
        ruledOut(11, fields(21));
        ruledOut(11, chain(9));
        ruledOut(11, "void go() { go(); }");
        allowed(nested(11));
        allowed(fields(20));
        allowed(chain(8));
    }

    private static String nested(int count) {
        StringBuilder text = new StringBuilder();
        for (int k = 0; k < count; k++) {
            text.append("private static final class C").append(k).append(" { } ");
        }
        return text.toString();
    }

    private static String fields(int count) {
        StringBuilder text = new StringBuilder("private static final int N = 0; ");
        for (int k = 0; k < count; k++) {
            text.append("private int f").append(k).append("; ");
        }
        return text.toString();
    }

    /** So many methods, each of which calls the next one. */
    private static String chain(int count) {
        StringBuilder text = new StringBuilder();
        for (int k = 1; k <= count; k++) {
            text.append("void m").append(k).append("() { ").append(k < count ? "m" + (k + 1) + "(); " : "").append("} ");
        }
        return text.toString();
    }
}

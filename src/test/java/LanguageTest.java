import java.io.IOException;
import java.net.URI;
import java.nio.file.Path;
import java.util.List;
import javax.tools.JavaFileObject;
import javax.tools.SimpleJavaFileObject;
import javax.tools.ToolProvider;

/** The program keeps to ../shared/LANGUAGE.md, and a program that does not is told. */
public final class LanguageTest {
    private static final Checks CHECKS = new Checks();
    private static final Path PROGRAM = Path.of("src/main/java/LockgateRouter.java");

    public static void main(String[] args) throws IOException {
        theProgram();
        whatIsAllowed();
        rules1To3();
        rules4And5();
        rule6();
        rules8To11();
        CHECKS.end("LanguageTest");
    }

    private static void theProgram() throws IOException {
        JavaFileObject file = ToolProvider.getSystemJavaCompiler().getStandardFileManager(null, null, null)
            .getJavaFileObjects(PROGRAM).iterator().next();
        CHECKS.same(PROGRAM.toString(), "[]", LanguageRules.faultsOf(file).toString());
    }

    /** What breaks one rule alone is told with that rule's number, and nothing else is told. */
    private static void breaks(int rule, String members) throws IOException {
        breaksAs(rule, members, "public final class Sample { " + members + " }");
    }

    private static void breaksAs(int rule, String what, String file) throws IOException {
        StringBuilder rules = new StringBuilder();
        for (String fault : LanguageRules.faultsOf(new Text(file))) {
            rules.append(fault, 0, fault.indexOf(':')).append(' ');
        }
        CHECKS.same("breaks rule " + rule + " once: " + what, rule + " ", rules.toString());
    }

    private static void whatIsAllowed() throws IOException {
        String file = "import java.util.ArrayList; import java.util.List; public final class Sample {"
            + " private static final int MOST = 3; private final ArrayList<Part> parts = new ArrayList<>();"
            + " private final int[][] rows = new int[MOST][MOST]; private final Part[] row = new Part[MOST];"
            + " public int count(long n) throws IllegalStateException {"
            + " if (n < 0) { throw new IllegalStateException(\"below 0\"); }"
            + " for (int i = 0; i < parts.size(); i++) { parts.get(i).size += Math.max(i, (int) n); }"
            + " StringBuilder text = new StringBuilder(); text.append(\"a\").append(1); return text.length(); }"
            + " private static final class Part { int size; } }";
        CHECKS.same("allowed", "[]", LanguageRules.faultsOf(new Text(file)).toString());
    }

    private static void rules1To3() throws IOException {
        breaksAs(1, "a package", "package net; public final class Sample { }");
        breaks(2, "interface Task { void run(); } void a() { Task task = () -> { }; task.run(); }");
        breaks(2, "interface Task { void run(); } void a() { Task task = this::a; task.run(); }");
        breaks(2, "void a() { class Local { int b; } }");
        breaks(2, "static class Own extends java.util.Random { }");
        breaks(3, "void a(double share) { }");
        breaks(3, "void a() { float share = 1; }");
        breaks(3, "private final int[][][] cubes = new int[1][1][1];");
        breaks(3, "static class Part { } private final Part[][] parts = new Part[1][1];");
        breaks(3, "private java.util.Map<Integer, Integer> map;");
        breaks(3, "private java.util.ArrayList<Long> longs;");
        breaks(3, "Object a() { return null; }");
    }

    private static void rules4And5() throws IOException {
        breaksAs(4, "an import", "import java.util.Map; public final class Sample { }");
        breaksAs(4, "an import of all", "import java.util.*; public final class Sample { }");
        breaks(4, "int a() { return Math.addExact(1, 2); }");
        breaks(4, "long a() { return System.nanoTime(); }");
        breaks(4, "int a() { return hashCode(); }");
        breaks(4, "int a() { return \"abc\".lastIndexOf('b'); }");
        breaks(4, "boolean a(java.util.ArrayList<Integer> list) { return list.contains(1); }");
        breaks(4, "void a() { new java.util.Random(); }");
        breaks(4, "void a() { new java.util.ArrayList<Integer>(7); }");
        breaks(4, "String a() { return \"\\u00e9\"; }");
        breaks(5, "private static int count;");
        breaks(5, "private static final int[] COUNTS = new int[3];");
        breaks(5, "static { }");
    }

    private static void rule6() throws IOException {
        breaks(6, "void a() { throw new Error(); }");
        breaks(6, "void a(String text) { throw new IllegalStateException(text); }");
        breaks(6, "void a() { throw new IllegalStateException(\"a\", null); }");
        breaks(6, "Sample() { throw new IllegalStateException(); }");
        breaks(6, "void a() { } void b() { try { a(); } finally { a(); } }");
        breaks(6, "void a() { synchronized (this) { a2(); } } void a2() { }");
        breaks(6, "void a(int b) { assert b > 0; }");
        breaks(6, "static class Part { } static class Small extends Part { } Small a(Part part) { return (Small) part; }");
        breaks(6, "static class Part { } boolean a(Part part) { return part instanceof Part; }");
        breaks(6, "boolean a(String b, String c) { return b == c; }");
        breaks(6, "boolean a(Integer b, Integer c) { return b != c; }");
        breaks(6, "public String toString() { return null; }");
        breaks(6, "public int hashCode() { return 1; }");
    }

    private static void rules8To11() throws IOException {
        breaks(8, "void a(int n) { if (n > 0) { a(n - 1); } }");
        breaks(8, "void a() { b(); } void b() { a(); }");
        breaks(9, "void a(int n) { while (n > 0) { n--; } }");
        breaks(9, "void a(int n) { do { n--; } while (n > 0); }");
        breaks(9, "void a() { for (;;) { } }");
        breaks(10, "String a(int n) { return \"a\" + n; }");
        breaks(10, "void a(String text) { text += 'a'; }");
        breaks(11, "void a(int b, int c, int d, int e, int f, int g, int h, int i) { }");
        breaks(11, "void a() { " + "\n".repeat(60) + " }");
        breaks(11, repeated(21, "private int fN; "));
        breaks(11, repeated(12, "static class CN { } "));
        breaks(11, "void a0() { } " + repeated(8, "void aN() { aP(); } "));
    }

    /** N stands for 1, 2 and so on in the text, P for the number ahead of it. */
    private static String repeated(int count, String text) {
        StringBuilder all = new StringBuilder();
        for (int i = 1; i <= count; i++) {
            all.append(text.replace("N", String.valueOf(i)).replace("P", String.valueOf(i - 1)));
        }
        return all.toString();
    }

    private static final class Text extends SimpleJavaFileObject {
        private final String content;

        Text(String content) {
            super(URI.create("string:///Sample.java"), JavaFileObject.Kind.SOURCE);
            this.content = content;
        }

        @Override
        public CharSequence getCharContent(boolean ignoreEncodingErrors) {
            return content;
        }
    }
}

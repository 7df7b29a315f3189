import java.nio.file.Files;
import java.nio.file.Path;
import java.util.List;

/** That the program keeps to LANGUAGE.md, and that programs that do not are told from it. */
public final class LanguageTest {
    private static final Path SOURCE = Path.of("src/main/java/TaxedByLongest.java");

    /** What stands inside a class T, ahead of it ("1" of two texts), and the rule that it breaks; 0 none. */
    private static final Object[][] MEMBERS = {
        {0, "private int v; public int a() { return b(3); } private static int b(int c) { return Math.max(c, 2); }"},
        {0, "private static final class U { final int[][] rows = new int[2][3]; U() { java.util.Arrays.fill(rows[0], 1); } }"},
        {0, "private static final String S = \"ab\"; public int a() { return S.indexOf((char) 97) + S.length() + S.charAt(0); }"},
        {0, "public int a() { int s = 0; for (int i = 0; i < 9; i++) { s += i; } while (s > 3) { s--; } return s; }"},
        {1, "int a() { return 1; }"}, {1, "protected int a() { return 1; }"}, {1, "int v;"}, {1, "public int v;"},
        {1, "public int a() { return 1; } private int a(int b) { return b; }"}, {1, "public static final class U { }"},
        {1, "public int a() { return 1; } private static final class U { private int a() { return 2; } }"},
        {2, "final class U { }"}, {2, "public int a() { class U { } return 1; }"}, {2, "private enum U { A { int v; } }"},
        {2, "private interface U { int b(); } public int a() { U u = () -> 1; return u.b(); }"},
        {2, "private interface U { int b(); } public int a() { U u = this::c; return u.b(); } private int c() { return 1; }"},
        {2, "private abstract static class U { } public int a() { U u = new U() { }; return 1; }"},
        {3, "private final int[][][] v = new int[1][1][1];"}, {3, "private final String[] v = new String[1];"},
        {3, "private final java.util.HashMap<Integer, Integer> v = null;"}, {3, "private Object v;"}, {3, "private Integer v;"},
        {4, "public int a() { return Math.addExact(1, 2); }"}, {4, "public int a() { return \"ab\".indexOf(\"a\"); }"},
        {4, "public int a() { return (int) System.nanoTime(); }"}, {4, "public int a() { return (int) Math.random(); }"},
        {4, "public int a() { return Integer.parseInt(\"1\"); }"}, {4, "public int a() { System.out.println(); return 1; }"},
        {4, "public int a() { return new java.util.Random(1).nextInt(); }"}, {4, "public int a() { return \"ab\".trim().length(); }"},
        {4, "private static final String S = \"" + (char) 233 + "\";"}, {4, "public int a() { int[] v = {2, 1}; java.util.Arrays.sort(v); return v[0]; }"},
        {5, "private static int v = 1;"}, {5, "private static final StringBuilder V = new StringBuilder();"},
        {5, "private static final boolean[] V = {true};"}, {5, "private static final int V; static { V = 1; }"},
        {6, "public int a() { throw new IllegalStateException(); }"}, {6, "public int a() { try { return 1; } finally { } }"},
        {6, "public int a() { synchronized (this) { return 1; } }"}, {6, "public int a() { assert true; return 1; }"},
        {6, "private static final class U { public String toString() { return \"\"; } }"}, {6, "private static final class U { public int hashCode() { return 1; } }"},
        {6, "public int a() { String s = \"a\"; String t = \"b\"; return s == t ? 1 : 2; }"},
        {6, "private static class U { } private static final class W extends U { } public int a() { U u = new W(); W w = (W) u; return 1; }"},
        {8, "public int a() { return a(); }"}, {8, "private int b() { return c(); } private int c() { return b(); } public int a() { return 1; }"},
        {8, "private static final class U { final U u; U() { u = new U(); } }"},
        {9, "public int a() { while (true) { } }"}, {9, "public int a() { for (;;) { } }"}, {9, "public int a() { do { } while ((true)); }"},
        {10, "public int a() { String s = \"a\"; s = s + 1; return s.length(); }"}, {10, "public int a() { String s = \"a\"; s = 1 + s; return 1; }"},
        {11, "private int b(int c, int d, int e, int f, int g, int h, int i, int j) { return 1; }"},
        {11, "private int a() { int s = 0;" + "s++;\n".repeat(60) + " return s; }"},
        {11, fields(21)}, {11, classesInside(12)}, {11, callsDeep(9)}, {0, fields(20) + classesInside(11) + callsDeep(8)},
    };

    public static void main(String[] args) throws Exception {
        Check.due("what the program has against LANGUAGE.md",
                LanguageRules.against("TaxedByLongest", Files.readString(SOURCE)), List.of());
        for (Object[] member : MEMBERS) {
            dueRule((Integer) member[0], "public final class T { " + member[1] + " }");
        }
        dueRule(1, "package p; public final class T { }");
        dueRule(1, "public class T { }");
        dueRule(1, "public final class T { } class U { }");
        dueRule(4, "import java.util.Map; public final class T { }");
        dueRule(4, "import static java.lang.Math.max; public final class T { }");
        Check.end();
    }

    private static void dueRule(int rule, String text) {
        List<String> found = LanguageRules.against("T", text);
        boolean isSo = rule == 0 ? found.isEmpty() : found.stream().anyMatch(one -> one.startsWith(rule + ": "));
        Check.holds("rule " + rule + " is told of " + text + ", told is " + found, isSo);
    }

    private static String fields(int count) {
        StringBuilder text = new StringBuilder("private static final int CONSTANT = 1;");
        for (int i = 0; i < count; i++) {
            text.append("private int v").append(i).append("; ");
        }
        return text.toString();
    }

    private static String classesInside(int count) {
        StringBuilder text = new StringBuilder();
        for (int i = 0; i < count; i++) {
            text.append("private static final class U").append(i).append(" { } ");
        }
        return text.toString();
    }

    private static String callsDeep(int count) {
        StringBuilder text = new StringBuilder("private int c1() { return 1; } ");
        for (int i = 2; i <= count; i++) {
            text.append("private int c").append(i).append("() { return c").append(i - 1).append("(); } ");
        }
        return text.toString();
    }
}

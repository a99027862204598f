import java.io.IOException;
import java.nio.file.Files;
import java.nio.file.Path;
import java.util.List;

/** The class's source keeps to the rules of LANGUAGE.md that its tree shows; sources that break one are told apart. */
public final class SourceTest extends Checks {
    private static final Path SOURCE = Path.of("src/main/java/FoldedBoard.java");
    private static final Path LANGUAGE = Path.of("../shared/LANGUAGE.md");

    public static void main(String[] args) throws IOException {
        about("LANGUAGE.md");
        ruleIsThere(2, "no lambda, no method reference");
        ruleIsThere(4, "none of those whose name ends in Exact");
        ruleIsThere(5, "Static fields are final");
        ruleIsThere(6, "No throw, try, catch, synchronized, assert");
        ruleIsThere(7, "a divisor before it divides");
        ruleIsThere(9, "Every loop has an end that can be seen from its own lines");
        ruleIsThere(11, "at most seven parameters");
        about("a source that breaks a rule");
        kept("int f(int v) { return Math.max(v, 1) / 2; }");
        kept("int f(int v, int w) { return w > 0 && v % w == 0 ? 1 : 0; }");
        kept("int f(int v, int w) { if (v < 9 && w > 0) { return v / w; } return 0; }");
        kept("static final int[] R = {1, 2}; int f(int i) { return i == 1 ? R[1] : R[0]; }");
        classes();
        types();
        statements();
        methods();
        about("the class");
        List<String> broken = SourceRules.broken(Files.readString(SOURCE));
        due("rules that it breaks: " + broken, broken.size(), 0);
        end();
    }

    private static void ruleIsThere(int number, String words) throws IOException {
        String rule = "";
        for (String line : Files.readString(LANGUAGE).split("\n(?=\\d+\\. )")) {
            rule = line.startsWith(number + ". ") ? line : rule;
        }
        due("rule " + number + " says: " + words, rule.contains(words) ? 1 : 0, 1);
    }

    private static String classWith(String members) {
        return "final class FoldedBoard {\n" + members + "\n}\n";
    }

    private static void kept(String members) throws IOException {
        List<String> broken = SourceRules.broken(classWith(members));
        due(members + " " + broken, broken.size(), 0);
    }

    private static void broken(int rule, String members) throws IOException {
        List<String> broken = SourceRules.broken(classWith(members));
        due("rule " + rule + ", " + members + " " + broken,
            broken.stream().anyMatch(b -> b.startsWith("rule " + rule + ": ")) ? 1 : 0, 1);
    }

    private static void classes() throws IOException {
        broken(2, "class Inner { }");
        broken(2, "void f() { class Local { } }");
        broken(2, "static abstract class A { } static A f() { return new A() { }; }");
        broken(2, "interface A { int f(int v); } static A f() { return v -> v; }");
        broken(2, "interface A { int f(int v); } static A f() { return Math::abs; }");
        broken(5, "static { }");
        broken(5, "static int state;");
        broken(5, "static final int[] ROW = new int[3];");
        broken(5, "static final int[] ROW = {1}; void f() { ROW[0] = 2; }");
        broken(5, "static final int[] ROW = {1}; void f() { ROW[0]++; }");
        broken(5, "static final int[] ROW = {1}; void f() { ROW[0] += 2; }");
    }

    private static void types() throws IOException {
        broken(3, "java.util.Map<String, String> map;");
        broken(3, "int[][][] deep;");
        broken(3, "Object any;");
        broken(4, "int f(int v) { return Math.addExact(v, 1); }");
        broken(4, "long f() { return System.nanoTime(); }");
        broken(4, "int f(double v) { return v > Math.sqrt(v) ? 1 : 0; }");
        broken(4, "int f(String s) { return s.hashCode(); }");
        broken(10, "String f(String s, int v) { return s + v; }");
        broken(12, "int f() { int[] row = new int[3]; return row[0]; }");
        broken(12, "static class A { } int f() { A a = new A(); return a == null ? 1 : 0; }");
    }

    private static void statements() throws IOException {
        broken(6, "void f() { throw new IllegalStateException(); }");
        broken(6, "void f() { try { f(); } finally { f(); } }");
        broken(6, "void f() { synchronized (this) { } }");
        broken(6, "void f(int v) { assert v > 0; }");
        broken(6, "static class A { } static class B extends A { } B f(A a) { return (B) a; }");
        broken(6, "boolean f(String a, String b) { return a == b; }");
        broken(7, "int f(int v, int w) { return v / w; }");
        broken(7, "int f(int v, int w) { return v % w; }");
        broken(7, "int f(int v) { return v / 0; }");
        broken(7, "int f(int v, int w) { if (w > 0) { return 1; } else { return v / w; } }");
        broken(9, "void f() { while (true) { } }");
        broken(9, "void f() { for (;;) { } }");
        broken(9, "void f(boolean on) { do { } while (on); }");
    }

    private static void methods() throws IOException {
        kept("int f(int a, int b, int c, int d, int e, int g, int h) { return 0; }");
        broken(11, "int f(int a, int b, int c, int d, int e, int g, int h, int i) { return 0; }");
        kept("void f(int v) {" + "\nv++;".repeat(58) + "\n}");
        broken(11, "void f(int v) {" + "\nv++;".repeat(59) + "\n}");
        kept(chain(8));
        broken(11, chain(9));
        // a group that calls itself counts each of its methods once
        kept("public void top(int v) { a(v); } private void a(int v) { if (v > 0) { b(v - 1); } } private void b(int v) { a(v); }");
        broken(8, "public void top(int v) { if (v > 0) { top(v - 1); } }");
    }

    private static String chain(int deep) {
        StringBuilder s = new StringBuilder("public void m1() { m2(); }\n");
        for (int i = 2; i < deep; i++) {
            s.append("private void m").append(i).append("() { m").append(i + 1).append("(); }\n");
        }
        return s.append("private void m").append(deep).append("() { }").toString();
    }
}

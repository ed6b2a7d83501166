import java.io.IOException;
import java.nio.file.Files;
import java.nio.file.Path;
import java.util.ArrayList;
import java.util.List;

/**
 * The program keeps to ../shared/LANGUAGE.md, as far as its text shows; and texts that leave a rule
 * are found out, so that the look at the program is worth something.
 */
public final class LanguageTest {
    private static final Path PROGRAM = Path.of("src", "main", "java", "GeneBook.java");

    private final Answers answers = new Answers();

    private LanguageTest() {
    }

    public static void main(String[] args) throws IOException {
        LanguageTest test = new LanguageTest();
        test.answers.due("the program", List.of(),
                Language.findings("GeneBook", Files.readString(PROGRAM)));
        test.allowed();
        test.faceAndClasses();
        test.typesAndCalls();
        test.statics();
        test.exceptions();
        test.runs();
        test.sizes();
        test.objects();
        test.answers.end();
    }

    private static String sample(String members) {
        return "import java.util.*; public final class Sample { " + members + " }";
    }

    /** The members leave this rule, and no other one. */
    private void leaves(int rule, String members) {
        text(rule, sample(members));
    }

    private void text(int rule, String text) {
        List<String> rules = new ArrayList<>();
        for (String finding : Language.findings("Sample", text)) {
            String number = finding.substring(0, finding.indexOf(','));
            if (!rules.contains(number)) {
                rules.add(number);
            }
        }
        String shown = text.length() > 300 ? text.substring(0, 300) : text;
        answers.due(shown, List.of("rule " + rule), rules);
    }

    private void keeps(String members) {
        answers.due(members, List.of(), Language.findings("Sample", sample(members)));
    }

    private void allowed() {
        keeps("");
        keeps("private static final int A = 3; private static final String B = \"b\"; int f(int x) { return x / A; }");
        keeps("private static final int[] A = {1, 2}; private static final char[] B = {'a'};");
        keeps("private enum E { X, Y; private static final E[] ALL = values(); int n; }");
        keeps("private interface S { int area(); default int twice() { return 2 * area(); } }"
                + " private static final class D implements S { public int area() { return 1; } }");
        keeps("private final ArrayList<Integer> l; private final StringBuilder b;"
                + " public Sample() { l = new ArrayList<>(); b = new StringBuilder(); }"
                + " int f(String s) { l.add(s.length()); b.append('c').append(1).append(s); b.setLength(0);"
                + " return l.get(0) + Math.max(1, s.indexOf('c')) + Integer.bitCount(3); }");
        keeps("int[][] f(int[] a, int[] b) { System.arraycopy(a, 0, b, 0, 1); Arrays.fill(a, 0); return null; }");
        keeps("void f() { throw new IllegalStateException(\"no\"); }"
                + " int g() { try { f(); } catch (IllegalStateException e) { return 1; } return 0; }");
        keeps("int f(int n) { int i = 0; while (i < n) { i++; } do { i--; } while (i > 0); return i; }");
        keeps("boolean f(String s, String t) { return s.equals(t) && s != null; }");
    }

    private void faceAndClasses() {
        text(0, "package p; public final class Sample { }");
        text(0, "public final class Sample { } final class Other { }");
        text(1, "public class Sample { }");
        text(1, "final class Sample { }");
        leaves(1, "private final class A { }");
        leaves(1, "public static final class A { }");
        leaves(1, "protected static class A { }");
        leaves(2, "interface I { int f(); } int g(I i) { return i.f(); } int h() { return g(() -> 1); }");
        leaves(2, "interface I { int f(); } int g(I i) { return i.f(); } int h() { return g(this::k); }"
                + " int k() { return 1; }");
        leaves(2, "int f() { class A { int n; } return 1; }");
    }

    private void typesAndCalls() {
        leaves(3, "Object o;");
        leaves(3, "String[] s;");
        leaves(3, "boolean[][] s;");
        leaves(3, "int[][][] s;");
        leaves(3, "static final class A { } A[][] s;");
        leaves(3, "Map<Integer, Integer> m;");
        leaves(3, "List<String> l;");
        leaves(3, "List l;");
        leaves(3, "Thread f(int n) { return null; }");
        leaves(3, "int f(Random r) { return 1; }");
        leaves(3, "char f() { return '\\u0100'; }");
        leaves(3, "int f(String s) { return \"\\u20ac\".length(); }");
        leaves(4, "String f(String s) { return s.trim(); }");
        leaves(4, "int f(String s) { return s.indexOf(\"a\"); }");
        leaves(4, "int f(String s, int n) { return s.indexOf(n); }");
        leaves(4, "StringBuilder f(StringBuilder b) { return b.append(1L); }");
        leaves(4, "StringBuilder f(StringBuilder b) { return b.insert(0, 'c'); }");
        leaves(4, "void f(List<Integer> l) { l.sort(null); }");
        leaves(4, "int f(int n) { return Math.addExact(n, n); }");
        leaves(4, "double f(double x) { return Math.abs(x); }");
        leaves(4, "int f(String s) { return Integer.parseInt(s); }");
        leaves(4, "void f(int[] a) { Arrays.sort(a); }");
        leaves(4, "long f() { return System.nanoTime(); }");
        leaves(4, "int f() { return hashCode(); }");
        leaves(4, "static final class A { } String f(A a) { return a.toString(); }");
        leaves(4, "static final class A { } boolean f(A a, A b) { return a.equals(b); }");
        leaves(4, "public Sample() { new Random(); }");
    }

    private void statics() {
        leaves(5, "private static int n;");
        leaves(5, "private static int n = 1;");
        leaves(5, "private static final int[] A = new int[4];");
        leaves(5, "private static final boolean[] A = {true};");
        leaves(5, "private static final StringBuilder B = new StringBuilder();");
        leaves(5, "private static final double D = 1.0;");
        leaves(5, "private static final int[] A = {1}; void f() { A[0] = 2; }");
        leaves(5, "private static final int[] A = {1}; void f() { A[0]++; }");
        leaves(5, "private static final int[] A = {1}; void f() { A[0] += 2; }");
        leaves(5, "static { }");
    }

    private void exceptions() {
        String thrower = "void f() { throw new IllegalStateException(); } ";
        leaves(6, "void f() { throw new ClassCastException(); }");
        leaves(6, "void f(String s) { throw new IllegalStateException(s); }");
        leaves(6, "public Sample() { throw new IllegalStateException(); }");
        leaves(6, "static final class E extends RuntimeException { static final long serialVersionUID = 1; }");
        leaves(6, thrower + "void g() { try { f(); } finally { f(); } }");
        leaves(6, thrower + "void g() { try { f(); } catch (Exception e) { return; } }");
        leaves(6, thrower
                + "boolean g() { try { f(); } catch (RuntimeException e) { return e == null; } return true; }");
        leaves(6, thrower + "void g() { try { f(); } catch (RuntimeException e) { throw new RuntimeException(); } }");
        leaves(6, "int f() { synchronized (this) { return 1; } }");
        leaves(6, "int f(int n) { assert n > 0; return 1; }");
        leaves(6, "boolean f(String s, String t) { return s == t; }");
        leaves(6, "boolean f(Integer s, Integer t) { return s != t; }");
        leaves(6, "interface I { } static final class A implements I { } A f(I i) { return (A) i; }");
    }

    private void runs() {
        leaves(7, "int f(int n) { return 1 / n; }");
        leaves(7, "int f(int n) { return 1 % n; }");
        leaves(7, "int f(int n) { int m = 1; m /= n; return m; }");
        leaves(7, "int f() { return 1 / 0; }");
        leaves(8, "int f(int n) { return n == 0 ? 0 : f(n - 1); }");
        leaves(8, "int f(int n) { return n == 0 ? 0 : g(n - 1); } int g(int n) { return f(n); }");
        leaves(9, "int f() { for (;;) { return 1; } }");
        leaves(9, "int f(int n) { for (int i = 0; i < n;) { i++; } return 1; }");
        leaves(9, "int f() { while (true) { return 1; } }");
        leaves(9, "int f() { do { return 1; } while (true); }");
        leaves(10, "String f(String s) { return s + 1; }");
        leaves(10, "String f(String s) { s += 'c'; return s; }");
        leaves(10, "int f(String s) { switch (s) { case \"a\": return 1; default: return 2; } }");
    }

    private void sizes() {
        String seven = "int a, int b, int c, int d, int e, int f, int g";
        keeps("int f(" + seven + ") { return a; }");
        leaves(11, "int f(" + seven + ", int h) { return a; }");
        keeps("int f() {" + "\n".repeat(59) + "return 1; }");
        leaves(11, "int f() {" + "\n".repeat(60) + "return 1; }");
        StringBuilder classes = new StringBuilder();
        StringBuilder fields = new StringBuilder();
        StringBuilder calls = new StringBuilder("int m8() { return 1; } ");
        for (int i = 1; i <= 11; i++) {
            classes.append("static final class C").append(i).append(" { } ");
        }
        for (int i = 1; i <= 20; i++) {
            fields.append("private int f").append(i).append("; private static final int N").append(i).append(" = 1; ");
        }
        for (int i = 1; i < 8; i++) {
            calls.append("int m").append(i).append("() { return m").append(i + 1).append("(); } ");
        }
        keeps(classes.toString());
        leaves(11, classes + "static final class D { }");
        keeps(fields.toString());
        leaves(11, fields + "private int g;");
        keeps(calls.toString());
        leaves(11, calls + "int m0() { return m1(); }");
    }

    private void objects() {
        leaves(12, "static final class A { } A f() { return new A(); }");
        leaves(12, "int[] f() { return new int[4]; }");
        leaves(12, "static final class A { A(Sample s) { } } private final A a; public Sample() { a = new A(this); }");
        leaves(12, "static class A { A() { f(); } void f() { } }");
    }
}

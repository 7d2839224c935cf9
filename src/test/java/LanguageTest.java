import java.io.IOException;
import java.nio.file.Files;
import java.nio.file.Path;
import java.util.List;

/** The class keeps to ../shared/LANGUAGE.md, as far as LanguageRules see it; they are tried on small sources, too. */
public final class LanguageTest {
    private static final Path PATH = Path.of("src/main/java/RuleLists.java");

    public static void main(String[] args) throws IOException {
        Check.due("the class", LanguageRules.complaints("RuleLists", Files.readString(PATH)).toString(), "[]");
        allowed();
        members();
        statements();
        expressions();
        sizes();
        Check.end();
    }

    private static void allowed() {
        keeps("static final int[] ROW = {1, 2};");
        keeps("static final int TWO = 2; int half(int a) { return a / TWO % 3; }");
        keeps("void f(int a) { if (a < 0) throw new IllegalArgumentException(\"below 0\"); }");
        keeps("int f() { int s = 0; for (int i = 9; i >= 0 && s < 3; i--) { s += Math.abs(i); } return s; }");
        keeps("final P[] all = new P[2]; P() { for (int i = 0; i < 2; i++) { all[i] = null; } }");
    }

    private static void members() {
        leaves(1, "} class Q {");
        leaves(1, "public void f() { } private void f(int a) { }");
        leaves(1, "public void f() { } static class Q { private void f() { } }");
        leaves(2, "void f() { class Q { } }");
        leaves(2, "interface Q { int q(); } Q f() { return () -> 1; }");
        leaves(2, "interface Q { int q(int a); } Q f() { return Math::abs; }");
        leaves(3, "java.util.Map<P, P> m;");
        leaves(3, "P[][] m;");
        leaves(3, "boolean[][] m;");
        leaves(5, "static int n;");
        leaves(5, "static int n = 1;");
        leaves(5, "static final int[] N = new int[3];");
        leaves(5, "static final double N = 1;");
        leaves(5, "static { }");
        leaves(6, "public int hashCode() { return 1; }");
        leaves(6, "synchronized void f() { }");
    }

    private static void statements() {
        leaves(6, "void f() { try { f(); } catch (RuntimeException e) { } }");
        leaves(6, "void f(RuntimeException e) { throw e; }");
        leaves(6, "void f(String s) { throw new IllegalStateException(s); }");
        leaves(6, "void f() { throw new NullPointerException(); }");
        leaves(6, "P() { throw new IllegalStateException(); }");
        leaves(6, "void f() { assert true; }");
        leaves(6, "void f() { synchronized (this) { } }");
        leaves(9, "void f() { while (true) { } }");
        leaves(9, "void f() { do { } while (true); }");
        leaves(9, "void f() { for (;;) { } }");
        leaves(9, "void f(int n) { for (int i = 0; i < n; i += n) { } }");
        leaves(9, "void f(int n) { for (int i = 0; i > n; i++) { } }");
        leaves(9, "void f(int n) { for (int i = 0; n < 3; i++) { } }");
        leaves(9, "void f(int n) { for (int i = 0; i < n; i++) { i--; } }");
        leaves(9, "void f(int n) { for (int i = 0; i < n; i++) { if (n > 3) { i = 0; } } }");
        leaves(12, "void f() { for (int i = 0; i < 3; i++) { new P(); } }");
        leaves(12, "void f() { for (int i = 0; i < 3; i++) { int[] a = new int[3]; } }");
    }

    private static void expressions() {
        leaves(4, "int f() { return Math.addExact(1, 2); }");
        leaves(4, "double f() { return Math.abs(1.0); }");
        leaves(4, "int f(int[] a) { return a.clone().hashCode(); }");
        leaves(4, "long f() { return System.nanoTime(); }");
        leaves(4, "Object f() { return new Object(); }");
        leaves(4, "String f() { return \"\\u00e9\"; }");
        leaves(6, "P f(Object o) { return (P) o; }");
        leaves(6, "boolean f(String a, String b) { return a == b; }");
        leaves(7, "int f(int a) { return 1 / a; }");
        leaves(7, "int f(int a) { return 1 % a; }");
        leaves(7, "int f(int a) { a /= a; return a; }");
        leaves(7, "int f(int a) { a %= a; return a; }");
        leaves(7, "static final int N = 0; int f(int a) { return a / N; }");
        leaves(7, "int[] f(int a) { return new int[a]; }");
        leaves(10, "String f(int a) { return \"a\" + a; }");
        leaves(10, "String f(String s) { s += 'a'; return s; }");
    }

    private static void sizes() {
        keeps(chain(8));
        leaves(11, chain(9));
        leaves(11, "void f() { f(); }");
        leaves(11, "void f() { g(); } void g() { f(); }");
        leaves(11, chain(8).replace("void f1()", "int n = f1(); int f1()").replace("f2(); }", "f2(); return 1; }"));
        keeps("void f(int a, int b, int c, int d, int e, int f, int g) { }");
        leaves(11, "void f(int a, int b, int c, int d, int e, int f, int g, int h) { }");
        keeps("void f() {" + "\n".repeat(59) + "}");
        leaves(11, "void f() {" + "\n".repeat(60) + "}");
        keeps(numbered("int n%d;", 20) + "static final int N = 1;");
        leaves(11, numbered("int n%d;", 21));
        keeps(numbered("class C%d { }", 11));
        leaves(11, numbered("class C%d { }", 12));
    }

    private static String chain(int methods) {
        return numbered("void f%d() { f%d(); }", methods - 1) + "void f" + methods + "() { }";
    }

    private static String numbered(String form, int times) {
        StringBuilder out = new StringBuilder();
        for (int number = 1; number <= times; number++) {
            out.append(String.format(form, number, number + 1)).append(' ');
        }
        return out.toString();
    }

    private static void keeps(String members) {
        Check.due("rules for " + members, complaintsOf(members).toString(), "[]");
    }

    private static void leaves(int rule, String members) {
        List<String> complaints = complaintsOf(members);
        boolean told = complaints.stream().anyMatch(complaint -> complaint.startsWith("rule " + rule + ","));
        Check.due("rule " + rule + " seen in " + members + " " + complaints, told, true);
    }

    private static List<String> complaintsOf(String members) {
        return LanguageRules.complaints("P", "public final class P { " + members + " }");
    }
}

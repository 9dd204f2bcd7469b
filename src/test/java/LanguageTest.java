import java.nio.file.Files;
import java.nio.file.Path;
import java.util.List;

/** The program keeps the rules of LANGUAGE.md that can be seen in its tree; and what breaks one of them is found. */
final class LanguageTest {
    public static void main(String[] args) throws Exception {
        String text = Files.readString(Path.of("src/main/java/Palettehouse.java"));
        for (String finding : Language.findings("Palettehouse", text)) {
            Check.isTrue(finding, false);
        }
        Check.isTrue("a sign beyond 127", text.chars().allMatch(sign -> sign < 128));
        Check.isTrue("a class that keeps the rules", Language.findings("T", inClass("private int f() { return 1; }")).isEmpty());
        broken();
        Check.end();
    }

    private static String inClass(String members) {
        return "final class T { " + members + " }";
    }

    private static void broken() throws Exception {
        breaks(1, "package p; final class T { }");
        breaks(1, "final class T { } final class U { }");
        breaks(1, inClass("public static final class U { }"));
        breaks(2, inClass("Runnable f() { return () -> { }; }"));
        breaks(2, inClass("Runnable f() { return this::g; } void g() { }"));
        breaks(3, inClass("double f(double x) { return Math.abs(x); }"));
        breaks(4, "import java.util.HashMap; " + inClass(""));
        breaks(4, inClass("Object f() { return new java.util.Random(); }"));
        breaks(4, inClass("int f() { return Math.addExact(1, 2); }"));
        breaks(4, inClass("long f() { return System.nanoTime(); }"));
        breaks(4, inClass("String f(String s) { return s.trim(); }"));
        breaks(5, inClass("static int f;"));
        breaks(5, inClass("static final int[][] F = {{1}};"));
        breaks(5, inClass("static { }"));
        breaks(6, inClass("T() { throw new IllegalStateException(); }"));
        breaks(6, inClass("void f(int x) { throw new Error(); }"));
        breaks(6, inClass("void f(String s) { throw new IllegalStateException(s); }"));
        breaks(6, inClass("void f(RuntimeException e) { throw e; }"));
        breaks(6, inClass("void f() { try { g(); } finally { g(); } } void g() { }"));
        breaks(6, inClass("synchronized void f() { synchronized (this) { } }"));
        breaks(6, inClass("void f(int x) { assert x > 0; }"));
        breaks(6, inClass("boolean f(String s, String t) { return s == t; }"));
        breaks(9, inClass("void f() { while (true) { } }"));
        breaks(9, inClass("void f() { for (;;) { } }"));
        breaks(10, inClass("String f(String s, int x) { return s + x; }"));
        breaks(10, inClass("void f(String s) { s += \"t\"; }"));
        breaks(11, inClass("void f(int a, int b, int c, int d, int e, int f, int g, int h) { }"));
        breaks(11, inClass("void f() {" + "\n".repeat(60) + "}"));
        breaks(11, inClass("class A { } class B { } class C { } class D { } class E { } class F { } class G { } class H { } "
                + "class I { } class J { } class K { } class L { }"));
        breaks(11, inClass("int a, b, c, d, e, f, g, h, i, j, k, l, m, n, o, p, q, r, s, t, u;"));
        breaks(11, inClass("void a() { b(); } void b() { c(); } void c() { d(); } void d() { e(); } void e() { f(); } "
                + "void f() { g(); } void g() { h(); } void h() { i(); } void i() { }"));
    }

    private static void breaks(int rule, String text) throws Exception {
        List<String> findings = Language.findings("T", text);
        boolean isFound = findings.stream().anyMatch(finding -> finding.startsWith("rule " + rule + ",")
                || finding.startsWith("rule " + rule + ":"));
        Check.isTrue("rule " + rule + " is not found broken, but " + findings + ", in: " + text, isFound);
    }
}

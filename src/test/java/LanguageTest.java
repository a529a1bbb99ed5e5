import java.io.IOException;
import java.nio.file.Files;
import java.nio.file.Path;
import java.util.List;
import javax.tools.ToolProvider;

/** The class against LANGUAGE.md, and Language against small programs that leave it. */
final class LanguageTest {
    public static void main(String[] args) throws IOException {
        if (ToolProvider.getSystemJavaCompiler() == null) {
            System.out.println("LanguageTest: this machine has no compiler to read with");
            return;
        }
        String source = Files.readString(Path.of(args.length > 0 ? args[0] : ".", "src/main/java/LateRules.java"));
        Due.is("complaints about the class", Language.complaintsAbout(source).toString(), "[]");
        small("int f(int a) { return a / 2 + (int) 3L; }", "");
        small("private static final int N = 4; int[] f = new int[N * 2];", "");
        wrongShapes();
        wrongCode();
        wrongLoopsAndCalls();
        Due.finish("LanguageTest");
    }

    /** The rule of LANGUAGE.md that such a class leaves; none, if it keeps to all. */
    private static void small(String members, String rule) throws IOException {
        List<String> complaints = Language.complaintsAbout("public final class LateRules { " + members + " }");
        boolean told = rule.isEmpty() ? complaints.isEmpty() : complaints.stream().anyMatch(one -> one.startsWith(rule + ":"));
        Due.is(members + ", of which is told " + complaints + ": rule " + rule, told, true);
    }

    private static void wrongShapes() throws IOException {
        small("public static class A { }", "1");
        small("class A { }", "1");
        small("void f() { class A { } }", "2");
        small("double d;", "3");
        small("int[][][] d;", "3");
        small("String[] d;", "3");
        small("Object d;", "3");
        small("static int d = 0;", "5");
        small("static final int[] D = new int[2];", "5");
        small("static final int D; static { D = 3; }", "5");
        small("int f(int a, int b, int c, int d, int e, int g, int h, int i) { return a; }", "11");
        small("void f() {\n" + "f0 = 1;\n".repeat(58) + "} int f0;", "");
        small("void f() {\n" + "f0 = 1;\n".repeat(59) + "} int f0;", "11");
        small(many("int f%d; ", 20), "");
        small(many("int f%d; ", 21), "11");
        small(many("private static class C%d { } ", 11), "");
        small(many("private static class C%d { } ", 12), "11");
    }

    private static String many(String member, int times) {
        StringBuilder members = new StringBuilder();
        for (int i = 0; i < times; i++) {
            members.append(String.format(member, i));
        }
        return members.toString();
    }

    private static void wrongCode() throws IOException {
        small("void f() { Runnable r = () -> { }; }", "2");
        small("void f() { Runnable r = LateRules::new; }", "2");
        small("void f() { try { f(); } catch (RuntimeException e) { } }", "6");
        small("LateRules() { throw new java.util.NoSuchElementException(); }", "6");
        small("void f(String s) { throw new java.util.NoSuchElementException(s); }", "6");
        small("void f() { throw new IllegalStateException(); }", "4");
        small("int f(int a, int b) { return a / b; }", "7");
        small("int f(int a) { return a % 0; }", "7");
        small("void f(int a, int b) { a /= b; }", "7");
        small("void f(int a) { int[] b = new int[a]; }", "7");
        small("boolean f(String a, String b) { return a == b; }", "6");
        small("String f(String a) { return a + 1; }", "10");
        small("void f(String a) { a += 1; }", "10");
        small("int f(int a) { return Math.addExact(a, 1); }", "4");
        small("int f(String a) { return a.hashCode(); }", "4");
        small("String f() { return \"\u00e9\"; }", "4");
    }

    private static void wrongLoopsAndCalls() throws IOException {
        small("void f() { while (true) { } }", "9");
        small("void f() { for (;;) { } }", "9");
        small("void f(int a) { while (a != 3) { a++; } }", "9");
        small("public int f(int a) { return f(a - 1); }", "8");
        small("public int f(int a) { return g(a); } private int g(int a) { return f(a); }", "8");
        small("public int a() { return b(); } " + chain("bcdefgh"), "");
        small("public int a() { return b(); } " + chain("bcdefghi"), "11");
    }

    /** Methods of which each calls the next one. */
    private static String chain(String names) {
        StringBuilder methods = new StringBuilder();
        for (int i = 0; i < names.length(); i++) {
            String next = i + 1 < names.length() ? names.charAt(i + 1) + "()" : "0";
            methods.append("private int ").append(names.charAt(i)).append("() { return ").append(next).append("; } ");
        }
        return methods.toString();
    }
}

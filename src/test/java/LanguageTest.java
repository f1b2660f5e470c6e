import java.io.IOException;
import java.nio.file.Files;
import java.nio.file.Path;
import java.util.Set;
import java.util.TreeSet;

/** The class keeps to the rules of LANGUAGE.md that Rules can see; and Rules does see a breach of each. */
public final class LanguageTest {
    private static final Check CHECK = new Check("LanguageTest");

    public static void main(String[] args) throws IOException {
        String source = Files.readString(Path.of("src/main/java/Shortnumbers.java"));
        CHECK.due("signs are ASCII", source.chars().allMatch(sign -> sign < 128), true);
        CHECK.due("the rules that the class breaks", Rules.broken(source), Set.of());
        sees("", "nothing");
        members();
        calls();
        bodies();
        CHECK.end();
    }

    /** A small class that keeps to the rules, and within it what does not. */
    private static void sees(String member, String rules) throws IOException {
        String source = "public final class Shortnumbers {\n    public Shortnumbers() {\n    }\n\n"
                + "    public int knock() {\n        return 1;\n    }\n" + member + "\n}\n";
        TreeSet<String> seen = new TreeSet<>();
        for (String breach : Rules.broken(source)) {
            seen.add(breach.replaceAll("(?s):.*", ""));
        }
        CHECK.due("what is seen in " + member, seen.isEmpty() ? "nothing" : String.join(", ", seen), rules);
    }

    private static void seesIn(String body, String rules) throws IOException {
        sees("private static int f(int a, String s, int[] row) { " + body + " }", rules);
    }

    private static void members() throws IOException {
        sees("int open() { return 1; }", "rule 1");
        sees("protected int open;", "rule 1");
        sees("private static final class A { int knock() { return 1; } }", "rule 1");
        sees("private static int knock(int a) { return a; }", "rule 1");
        sees("private final class Inner { }", "rule 1");
        sees("public static final class A { }", "rule 1");
        sees("private Object one;", "rule 3");
        sees("private int[][][] one;", "rule 3");
        sees("private int f() { Integer a = 1; return a; }", "rule 3");
        sees("private static int count;", "rule 5");
        sees("private static final int COUNT = 1;", "nothing");
        sees("private static final StringBuilder MADE = new StringBuilder();", "rule 5");
        sees("static { }", "rule 5");
        sees("private static final class A { public String toString() { return \"\"; } }", "rule 6");
        sees("private synchronized int f() { return 1; }", "rule 6");
        sees("private int f(int a, int b, int c, int d, int e, int f, int g) { return a; }", "nothing");
        sees("private int f(int a, int b, int c, int d, int e, int f, int g, int h) { return a; }", "rule 11");
        sees("private int f() {" + "\n".repeat(59) + "return 1; }", "nothing");
        sees("private int f() {" + "\n".repeat(60) + "return 1; }", "rule 11");
        sees(numbered("private int f", 20, ";"), "nothing");
        sees(numbered("private int f", 21, ";"), "rule 11");
        sees(numbered("private static final class A", 11, " { }"), "nothing");
        sees(numbered("private static final class A", 12, " { }"), "rule 11");
    }

    private static String numbered(String before, int count, String behind) {
        StringBuilder all = new StringBuilder();
        for (int i = 1; i <= count; i++) {
            all.append(before).append(i).append(behind).append('\n');
        }
        return all.toString();
    }

    private static void calls() throws IOException {
        sees("private int f(int a) { return a == 0 ? 0 : f(a - 1); }", "rule 8");
        sees("private int f() { return g(); } private int g() { return f(); }", "rule 8");
        StringBuilder chain = new StringBuilder("private int f1() { return 1; }");
        for (int depth = 2; depth <= 8; depth++) {
            chain.append("private int f").append(depth).append("() { return f").append(depth - 1).append("(); }");
        }
        sees(chain.toString(), "nothing");
        sees(chain + "private int f9() { return f8(); }", "rule 11");
        sees("private static final class A { A() { f(); } static int f() { return 1; } }"
                + "private static A g() { return new A(); }", "nothing");
    }

    private static void bodies() throws IOException {
        seesIn("return s.length() + s.charAt(0);", "nothing");
        seesIn("return s.hashCode();", "rule 4");
        seesIn("return s.trim().length();", "rule 4");
        seesIn("return Math.addExact(a, 1);", "rule 4");
        seesIn("return (int) System.nanoTime();", "rule 4");
        seesIn("return new StringBuilder(s).append(a).toString().length();", "rule 4");
        seesIn("return new StringBuilder().append(a).toString().length();", "nothing");
        seesIn("return \"\\u00e9\".length();", "rule 4");
        seesIn("return '\\u0100';", "rule 3");
        seesIn("throw new IllegalStateException(\"a\");", "nothing");
        seesIn("throw new IllegalStateException(s);", "rule 6");
        seesIn("throw new NullPointerException();", "rule 6");
        sees("private static final class A { A() { throw new RuntimeException(); } }", "rule 6");
        seesIn("return s == \"a\" ? 1 : 0;", "rule 6");
        seesIn("return (s + a).length();", "rule 10");
        seesIn("for (;;) { row[0] = a; }", "rule 9");
        seesIn("for (int i = 0; i < a; ) { row[0] = i; } return a;", "rule 9");
        seesIn("for (int i = 0; i < a; i++) { row[0] = i; } return a;", "nothing");
        seesIn("while (a > 0) { a = a - 1; } return a;", "new");
        seesIn("try { return a; } finally { row[0] = a; }", "new");
        seesIn("assert a > 0; return a;", "new");
        seesIn("Runnable one = () -> { }; return a;", "new, rule 3");
        seesIn("for (int i = 0; i < a; i++) { row = new int[1]; } return a;", "rule 12");
        seesIn("for (int i = 0; i < a; i++) { s = new StringBuilder().toString(); } return a;", "rule 12");
    }
}

import java.io.IOException;
import java.nio.file.Files;
import java.nio.file.Path;
import java.util.List;
import java.util.Set;
import java.util.TreeSet;

/** The class keeps to LANGUAGE.md as far as Language can see; and what Language looks for it does find. */
public final class LanguageTest {
    private static final Check CHECK = new Check();

    public static void main(String[] args) throws IOException {
        String source = Files.readString(Path.of("src/main/java/ColumnHouse.java"));
        CHECK.due("what breaks a rule", Language.breaks(source), List.of());
        CHECK.due("characters above 255", source.chars().filter(c -> c > 255).count(), 0L);
        CHECK.due("a class that keeps to the rules", Language.breaks(around("")), List.of());
        wholes();
        members();
        CHECK.end("LanguageTest");
    }

    private static String around(String member) {
        return "public final class ColumnHouse { private int n; public int why() { return n; } " + member + " }";
    }

    private static void finds(int rule, String source) throws IOException {
        Set<String> rules = new TreeSet<>();
        for (String found : Language.breaks(source)) {
            rules.add(found.substring(0, found.indexOf(':')));
        }
        CHECK.due(source, rules.contains("rule " + rule), true);
    }

    private static void member(int rule, String member) throws IOException {
        finds(rule, around(member));
    }

    private static void wholes() throws IOException {
        finds(1, "package house; " + around(""));
        finds(1, around("") + " class Other { }");
        finds(1, "public class ColumnHouse { }");
        finds(4, "import java.util.ArrayList; " + around(""));
    }

    private static void members() throws IOException {
        member(1, "int open;");
        member(1, "public static class Inside { }");
        member(1, "private class Inside { }");
        member(1, "private int why(int other) { return other; }");
        member(1, "private static final class Inside { int why() { return 1; } }");
        member(2, "interface F { int f(); } private F f = () -> 1;");
        member(2, "interface F { int f(); } private F f = this::why;");
        member(2, "interface F { int f(); } private F f = new F() { public int f() { return 1; } };");
        member(2, "private int local() { class Local { } return 1; }");
        member(3, "private int[][] deep;");
        member(3, "private Object any;");
        member(3, "private int all() { var deep = new int[1][1]; return deep.length; }");
        member(3, "private double rest(double x) { return x % 2; }");
        member(3, "private double rest(double x) { x %= 2; return x; }");
        member(3, "private double step(double x) { return x++; }");
        member(3, "private int text() { return \"text\".length(); }");
        member(4, "private double root(double x) { return Math.sqrt(x); }");
        member(4, "private int add(int x) { return Math.addExact(x, 1); }");
        member(4, "private double most(double x) { return Math.max(x, 1); }");
        member(4, "private long now() { return System.nanoTime(); }");
        member(4, "private int any() { return hashCode(); }");
        member(4, "@Deprecated private int old() { return 1; }");
        member(5, "private static int state;");
        member(5, "private static final int[] STATE = new int[2];");
        member(5, "private static final double HALF = 0.5;");
        member(5, "static { }");
        member(6, "private int refuse() { throw new IllegalArgumentException(); }");
        member(6, "private int tries() { try { return 1; } catch (RuntimeException e) { return 2; } }");
        member(6, "private int alone() { synchronized (this) { return 1; } }");
        member(6, "private int sure() { assert n > 0; return 1; }");
        member(6, "private static class A { } private A cast(Object x) { return (A) x; }");
        member(8, "private int down(int k) { return k > 0 ? down(k - 1) : 0; }");
        member(8, "private int to(int k) { return fro(k); } private int fro(int k) { return to(k); }");
        member(8, "abstract static class A { abstract int f(); } static class B extends A { A a; int f() { return "
            + "a == null ? 0 : a.f(); } }");
        member(9, "private int ever() { while (true) { n++; } }");
        member(9, "private int ever() { for (;;) { n++; } }");
        member(9, "private int ever() { do { n++; } while (true); }");
        member(11, "private int many(int a, int b, int c, int d, int e, int f, int g, int h) { return a; }");
        member(11, "private int tall() {" + "\n n++;".repeat(60) + " return n; }");
        member(11, fields(20));
        member(11, classes(12));
        member(11, chain(9));
        member(12, "static class A { A() { f(); } void f() { } }");
        CHECK.due("as many as may be", Language.breaks(around(fields(19) + classes(11) + chain(8))), List.of());
    }

    private static String fields(int count) {
        return numbered(count, "private int fN;");
    }

    private static String classes(int count) {
        return numbered(count, "static class CN { }");
    }

    /** Methods that call one another, so many deep. */
    private static String chain(int depth) {
        return "private int m0() { return 1; }" + numbered(depth - 1, "private int mN() { return mP(); }");
    }

    private static String numbered(int count, String member) {
        StringBuilder members = new StringBuilder();
        for (int k = 1; k <= count; k++) {
            members.append(' ').append(member.replace("N", "" + k).replace("P", "" + (k - 1)));
        }
        return members.toString();
    }
}

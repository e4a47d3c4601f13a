import com.sun.source.tree.CompilationUnitTree;
import com.sun.source.util.JavacTask;
import com.sun.source.util.Trees;
import java.io.IOException;
import java.net.URI;
import java.nio.file.Files;
import java.nio.file.Path;
import java.util.List;
import javax.tools.Diagnostic;
import javax.tools.DiagnosticCollector;
import javax.tools.JavaCompiler;
import javax.tools.JavaFileObject;
import javax.tools.SimpleJavaFileObject;
import javax.tools.ToolProvider;

/**
 * Goes through ../shared/LANGUAGE.md, rule by rule, over the source as the compiler reads it (RulesLook), and then over
 * small sources each of which breaks one rule, to see that the look finds that.
 */
public final class RulesTest {
    private static final Due DUE = new Due("RulesTest");
    private static final String HEAD = "import java.util.*; public final class MixinUnits { ";

    public static void main(String[] args) throws IOException {
        List<String> found = look(Files.readString(Path.of("src/main/java/MixinUnits.java")));
        found.forEach(line -> System.out.println("RulesTest: " + line));
        DUE.is("rules that the class breaks", found.size(), 0);
        DUE.is("what breaks no rule", look(HEAD + GOOD + "}").toString().equals("[]"), true);
        DUE.is("the list of good lines is read", look(HEAD + GOOD + "int x; }").toString().startsWith("[rule 1"), true);
        for (String[] broken : BROKEN) {
            String text = broken[1].startsWith("!") ? broken[1].substring(1) : HEAD + broken[1] + " }";
            List<String> told = look(text);
            boolean isFound = told.stream().anyMatch(line -> line.startsWith("rule " + broken[0] + ":"));
            DUE.is("found that this breaks rule " + broken[0] + ": " + broken[1] + " told " + told, isFound, true);
        }
        DUE.end();
    }

    private static List<String> look(String text) throws IOException {
        JavaCompiler compiler = ToolProvider.getSystemJavaCompiler();
        JavaFileObject source = new SimpleJavaFileObject(URI.create("string:///MixinUnits.java"), JavaFileObject.Kind.SOURCE) {
            @Override
            public CharSequence getCharContent(boolean ignored) {
                return text;
            }
        };
        DiagnosticCollector<JavaFileObject> problems = new DiagnosticCollector<>();
        JavacTask task = (JavacTask) compiler.getTask(null, null, problems, List.of("-proc:none"), null, List.of(source));
        CompilationUnitTree unit = task.parse().iterator().next();
        task.analyze();
        problems.getDiagnostics().stream().filter(d -> d.getKind() == Diagnostic.Kind.ERROR)
            .forEach(d -> DUE.is("compiled: " + text + " " + d.getMessage(null), true, false));
        RulesLook look = new RulesLook(unit, Trees.instance(task));
        return look.findings();
    }

    private static final String GOOD = """
        private static final int[] ROW = {1, 2};
        private int[][] rows = new int[2][3];
        private static final class Own { final ArrayList<Own> parts = new ArrayList<Own>(); }
        public int type(int n) throws IllegalStateException {
            if (n < 0) { throw new IllegalStateException("no"); }
            int sum = 0;
            for (int i = 0; i < n && i < 9; i++) { sum += n / 2 + Math.max(i, ROW[0]); }
            while (sum > 3 && sum < 9) { sum++; }
            return sum + down(n, 0);
        }
        private static int down(int n, int depth) { return depth > 20 ? n : down(n, depth + 1); }
        """;

    private static final String[][] BROKEN = {
        {"1", "!package p; public final class MixinUnits { }"},
        {"1", "!public class MixinUnits { }"},
        {"1", "!public final class MixinUnits { } class Other { }"},
        {"1", "int open;"},
        {"1", "protected void open() { }"},
        {"1", "public static class Open { }"},
        {"1", "public void run() { } static class A { private void run() { } }"},
        {"2", "private class Inner { }"},
        {"2", "private Comparable<Integer> a = x -> 1;"},
        {"2", "private Comparable<Integer> a = MixinUnits::of; private static int of(int x) { return x; }"},
        {"3", "private Object a;"},
        {"3", "private int[][][] a;"},
        {"3", "private static class A { } private A[][] a;"},
        {"3", "private ArrayList<String> a;"},
        {"3", "private void a() { for (Object o : new String[1]) { } }"},
        {"4", "private int a = Math.addExact(1, 2);"},
        {"4", "private HashMap<Integer, Integer> a;"},
        {"4", "private String a = String.valueOf(1);"},
        {"4", "private void a(int[] row) { Arrays.sort(row); }"},
        {"4", "private void a() { System.out.println(); }"},
        {"4", "private boolean a(MixinUnits b) { return b.equals(this); }"},
        {"5", "private static int a;"},
        {"5", "private static final int[] A = new int[3];"},
        {"5", "private static final StringBuilder A = new StringBuilder();"},
        {"5", "static { }"},
        {"6", "private void a() { throw new Error(); }"},
        {"6", "private void a(RuntimeException e) { throw e; }"},
        {"6", "private void a(String s) { throw new IllegalStateException(s); }"},
        {"6", "public MixinUnits() { throw new IllegalStateException(); }"},
        {"6", "private void a() { try { a(); } finally { } }"},
        {"6", "private void a() { try { a(); } catch (NullPointerException e) { } }"},
        {"6", "private void a() { try { a(); } catch (Exception e) { } }"},
        {"6", "private void a() { try { throw new IllegalStateException(); } catch (IllegalStateException e) { } }"},
        {"6", "private void a() { try { a(); } catch (IllegalStateException e) { e.getMessage(); } }"},
        {"6", "private void a() { synchronized (this) { } }"},
        {"6", "private void a() { assert true; }"},
        {"6", "private boolean a(String b, String c) { return b == c; }"},
        {"6", "private boolean a(Integer b, Integer c) { return b != c; }"},
        {"6", "private static class A { } private static class B extends A { } private B a(A a) { return (B) a; }"},
        {"7", "private int a(int b) { return 1 / b; }"},
        {"7", "private int a(int b) { return 1 % b; }"},
        {"7", "private int a(int b) { b /= b; return b; }"},
        {"8", "private static int a(int b) { return a(b - 1); }"},
        {"8", "private static int a(int b, int depth) { return depth > 9 ? 0 : a(b, depth); }"},
        {"8", "private static int a(int b, int depth) { return a(b, depth + 1); }"},
        {"8", "public int a(int depth) { return depth > 9 ? 0 : a(depth + 1); }"},
        {"8", "private int a(int depth) { return depth > 9 ? 0 : b(depth); } private int b(int depth) { return a(depth); }"},
        {"9", "private void a() { while (true) { } }"},
        {"9", "private void a() { for (;;) { } }"},
        {"9", "private void a(int n) { while (n < 9) { } }"},
        {"9", "private void a(int n) { for (int i = 0; n < 9; i++) { } }"},
        {"9", "private void a(int n) { for (int i = 0; i < 9;) { } }"},
        {"9", "private void a(int n) { do { } while (n < 9); }"},
        {"10", "private String a(String b) { return b + 1; }"},
        {"11", "private void a(int b, int c, int d, int e, int f, int g, int h, int i) { }"},
        {"11", "private void a() { " + ";\n".repeat(61) + "}"},
        {"11", classes(12)},
        {"11", "private int " + "a, b, c, d, e, f, g, h, i, j, k, l, m, n, o, p, q, r, s, t, u;"},
        {"11", chain(9)},
        {"12", "private void a(List<Integer> b) { for (int c : b) { } }"},
        {"12", "private enum E { A } private void a() { E[] b = E.values(); }"},
        {"12", "private static class A { A() { a(); } void a() { } }"},
        {"12", "private static class A { A(ArrayList<A> all) { all.add(this); } }"},
        {"13", "private long a = System.nanoTime();"},
        {"13", "private double a = Math.random();"}
    };

    private static String classes(int count) {
        StringBuilder text = new StringBuilder();
        for (int i = 0; i < count; i++) {
            text.append("static class C").append(i).append(" { } ");
        }
        return text.toString();
    }

    /** So many methods, each of which calls the next one; the first one is called from outside. */
    private static String chain(int count) {
        StringBuilder text = new StringBuilder();
        for (int i = 1; i < count; i++) {
            text.append(i == 1 ? "public" : "private").append(" void c").append(i).append("() { c").append(i + 1).append("(); } ");
        }
        return text.append("private void c").append(count).append("() { } ").toString();
    }
}

import com.sun.source.tree.ClassTree;
import com.sun.source.tree.CompilationUnitTree;
import com.sun.source.tree.MethodTree;
import com.sun.source.tree.Tree;
import com.sun.source.util.JavacTask;
import com.sun.source.util.Trees;
import java.io.IOException;
import java.net.URI;
import java.nio.file.Files;
import java.nio.file.Path;
import java.util.List;
import java.util.Set;
import java.util.TreeSet;
import java.util.regex.Matcher;
import java.util.regex.Pattern;
import java.util.stream.Collectors;
import java.util.stream.IntStream;
import javax.lang.model.element.Modifier;
import javax.tools.JavaCompiler;
import javax.tools.JavaFileObject;
import javax.tools.SimpleJavaFileObject;
import javax.tools.ToolProvider;

/** The class against ../shared/LANGUAGE.md and the face in ../shared/DOC.md, and the rules against spoilt sources. */
public final class LanguageTest {
    private static final Path CLASS = Path.of("src/main/java/Marginhouse.java");
    private static final Path DOCUMENT = Path.of("../shared/DOC.md");
    private static final int DEEPEST = 8;
    private static final Check C = new Check("LanguageTest");

    private record Source(Trees trees, CompilationUnitTree unit) { }

    private LanguageTest() { }

    public static void main(String[] args) throws IOException {
        Source source = read(Files.readString(CLASS));
        C.due("what LANGUAGE.md rules out", List.of(), new LanguageRules(source.trees, source.unit).look());
        int depth = CallDepth.of(source.trees, source.unit);
        C.due("rule 11: calls go " + depth + " deep, at most " + DEEPEST, true, depth <= DEEPEST);
        C.due("rule 1: the face", faceOfDocument(), faceOf(source.unit));
        spoiltSources();
        depths();
        C.end();
    }

    private static Source read(String text) throws IOException {
        JavaCompiler compiler = ToolProvider.getSystemJavaCompiler();
        URI place = URI.create("string:///Source.java");
        JavaFileObject file = new SimpleJavaFileObject(place, JavaFileObject.Kind.SOURCE) {
            @Override
            public CharSequence getCharContent(boolean isEncodingErrorIgnored) {
                return text;
            }

            @Override
            public boolean isNameCompatible(String name, Kind kind) {
                return true;
            }
        };
        JavacTask task = (JavacTask) compiler.getTask(null, null, null, List.of("-proc:none"), null, List.of(file));
        CompilationUnitTree unit = task.parse().iterator().next();
        task.analyze();
        return new Source(Trees.instance(task), unit);
    }

    // ---- rule 1: the face

    private static Set<String> faceOfDocument() throws IOException {
        Matcher block = Pattern.compile("```java\\n(.*?)```", Pattern.DOTALL).matcher(Files.readString(DOCUMENT));
        Set<String> face = new TreeSet<>();
        if (block.find()) {
            for (String line : block.group(1).split("\n")) {
                if (line.endsWith(";")) {
                    face.add(line.trim());
                }
            }
        }
        return face;
    }

    private static Set<String> faceOf(CompilationUnitTree unit) {
        Set<String> face = new TreeSet<>();
        for (Tree member : ((ClassTree) unit.getTypeDecls().get(0)).getMembers()) {
            if (member instanceof MethodTree method && method.getModifiers().getFlags().contains(Modifier.PUBLIC)) {
                face.add(signatureOf(method));
            }
        }
        return face;
    }

    private static String signatureOf(MethodTree method) {
        String name = method.getReturnType() == null ? "Marginhouse" : method.getReturnType() + " " + method.getName();
        String parameters = method.getParameters().stream().map(each -> each.getType() + " " + each.getName())
                .collect(Collectors.joining(", "));
        String thrown = method.getThrows().stream().map(Object::toString).collect(Collectors.joining(", "));
        return "public " + name + "(" + parameters + ")" + (thrown.isEmpty() ? "" : " throws " + thrown) + ";";
    }

    // ---- each rule finds what it is for, and not what is allowed

    private static void spoiltSources() throws IOException {
        allowed();
        declared();
        library();
        exceptions();
        statements();
    }

    private static void allowed() throws IOException {
        finds("", "int a(int b) { return Math.max(b, Integer.compare(b, 3)); }");
        finds("", "String a(int b) { return new StringBuilder().append(b).append('x').append(\"y\").toString(); }");
        finds("", "void a(StringBuilder b) { b.setLength(b.length() - 1); }");
        finds("", "int a(int[] b) { Arrays.fill(b, 1); int[] c = b.clone(); return c.length; }");
        finds("", "int a(int[] b) { int sum = 0; for (int each : b) { sum += each; } return sum; }");
        finds("", "int b() { try { return c(); } catch (IllegalStateException e) { return 1; } }"
                + " int c() { throw new IllegalStateException(\"written\"); }");
        finds("", "static final class Row { int at; } final Row[] rows = new Row[3]; int[][] two = new int[3][4];");
        finds("", "static final int[] ROW = {1, 2}; static final String TEXT = \"a\";");
        finds("", "int a(int b) { while (b > 3) { b--; } switch (b) { case 1: return 1; default: return 2; } }");
        finds("", fields(20));
        finds("", classes(10));
    }

    private static void declared() throws IOException {
        findsOnTop("1", "protected static final class Row { }");
        findsOnTop("1", "public static final class Row { }");
        findsOnTop("1", "int seen;");
        findsOnTop("1", "public static final int SEEN = 1;");
        findsOnTop("1", "int seen() { return 1; }");
        findsOnTop("1", "public int a() { return 1; } private int a(int b) { return b; }");
        findsOnTop("1", "public int a() { return 1; } static final class Row { int a() { return 2; } }");
        finds("2", "void a() { Comparable<Integer> b = other -> 1; }");
        finds("2", "void a(Integer c) { Comparable<Integer> b = c::compareTo; }");
        finds("3", "String[] a;");
        finds("3", "int[][][] a;");
        finds("3", "static final class Row { } Row[][] a;");
        finds("5", "static int count;");
        finds("5", "static final int[] ROW = new int[] {1}; static { ROW[0] = 1; }");
        finds("5", "static final StringBuilder TEXT = new StringBuilder();");
        finds("11", "void a(int b, int c, int d, int e, int f, int g, int h, int i) { }");
        finds("11", "int a() {" + "\n".repeat(60) + "return 1; }");
        finds("11", fields(21));
        finds("11", classes(11));
    }

    private static void library() throws IOException {
        finds("4", "int a() { return Integer.MIN_VALUE; }");
        finds("4", "long a() { return Long.MAX_VALUE; }");
        finds("4", "int a(int b) { return Math.addExact(b, 1); }");
        finds("4", "double a(double b) { return Math.max(b, 1.0); }");
        finds("4", "int a(String b) { return Integer.parseInt(b); }");
        finds("4", "String a(int b) { return String.valueOf(b); }");
        finds("4", "String a(long b) { return new StringBuilder().append(b).toString(); }");
        finds("4", "long a() { return System.nanoTime(); }");
        finds("4", "void a(int[] b) { Arrays.sort(b); }");
        finds("4", "void a() { System.out.println(1); }");
        finds("4", "int a() { return new java.util.Random().nextInt(); }");
        finds("4", "int a() { return hashCode(); }");
        finds("4", "String a() { return \"\\u00e9\"; }");
        finds("4", "char a() { return '\\0'; }");
    }

    private static void exceptions() throws IOException {
        finds("6", "In() { throw new IllegalStateException(); }");
        finds("6", "void a(RuntimeException e) { throw e; }");
        finds("4 6", "void a() { throw new NullPointerException(); }");
        finds("6", "void a(String b) { throw new IllegalStateException(b); }");
        finds("4 6", "void a() { try { b(); } catch (NullPointerException e) { return; } } void b() { }");
        finds("4 6", "void a() { try { b(); } catch (Exception e) { return; } } void b() { }");
        finds("6", "void a() { try { b(); } finally { b(); } } void b() { }");
        finds("6", "void a() { try { a(); } catch (IllegalStateException e) { return; }"
                + " throw new IllegalStateException(); }");
        finds("6", "void a() { synchronized (this) { return; } }");
        finds("6", "void a(int b) { assert b > 0; }");
        finds("6", "boolean a(String b, String c) { return b == c; }");
        finds("6", "boolean a(Integer b, Integer c) { return b != c; }");
    }

    private static void statements() throws IOException {
        finds("9", "void a() { while (true) { break; } }");
        finds("9", "void a() { do { break; } while (true); }");
        finds("9", "void a() { for (;;) { break; } }");
        finds("10", "String a(int b) { return \"b\" + b; }");
        finds("10", "String a(String b) { b += 1; return b; }");
        finds("10", "int a(String b) { switch (b) { case \"x\": return 1; default: return 2; } }");
    }

    private static String fields(int count) {
        return IntStream.range(0, count).mapToObj(i -> "int a" + i + ";").collect(Collectors.joining(" "));
    }

    private static String classes(int count) {
        return IntStream.range(0, count).mapToObj(i -> "static final class A" + i + " { }")
                .collect(Collectors.joining(" "));
    }

    private static void finds(String rules, String members) throws IOException {
        findsOnTop(rules, "private static final class In { " + members + " }");
    }

    /** A class with these members breaks just these rules. */
    private static void findsOnTop(String rules, String members) throws IOException {
        Source source = read("import java.util.Arrays; public final class Source { " + members + " }");
        String found = new LanguageRules(source.trees, source.unit).look().stream()
                .map(each -> Integer.parseInt(each.replaceAll("rule (\\d+),.*", "$1")))
                .distinct().sorted().map(String::valueOf).collect(Collectors.joining(" "));
        C.due("the rules that are broken by " + members, rules, found);
    }

    private static void depths() throws IOException {
        Source source = read("public final class Source { int[] a = b(); public Source() { } static int[] b() { c(1);"
                + " return new int[1]; } static int c(int d) { return d > 0 ? c(d - 1) : Math.max(d, 0); } }");
        C.due("the constructor, b, c, and c again or max", 4, CallDepth.of(source.trees, source.unit));
    }
}

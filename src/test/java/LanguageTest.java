import java.io.IOException;
import java.nio.file.Files;
import java.nio.file.Path;
import java.util.List;

/** The program keeps to LANGUAGE.md, as far as Language sees; programs that break a rule show that it sees them. */
public final class LanguageTest {

    private static final Path PROGRAM = Path.of("src/main/java/TaflHall.java");

    public static void main(String[] args) throws IOException {
        Checks.same("complaints about the program", Language.complaints(Files.readString(PROGRAM)), List.of());
        plainPrograms();
        classesAndTypes();
        libraryAndStatics();
        exceptions();
        machine();
        callsAndLoops();
        sizes();
        Checks.finish();
    }

    private static String program(String members) {
        return "public final class TaflHall { " + members + " }";
    }

    private static void keeps(String members) throws IOException {
        Checks.same(members, Language.complaints(program(members)), List.of());
    }

    private static void breaks(int rule, String members) throws IOException {
        List<String> complaints = Language.complaints(program(members));
        boolean told = complaints.stream().anyMatch(one -> one.startsWith("rule " + rule + ": "));
        Checks.same("rule " + rule + " is broken by " + members + " " + complaints, told, true);
    }

    private static void plainPrograms() throws IOException {
        keeps("");
        keeps("private static final long ALL = (1L << 49) - 1L; private final int[] row = new int[7];"
                + " int at(int i) { return i >= 0 && i < row.length ? row[i] : 0; }");
        keeps("String text(int n) { StringBuilder t = new StringBuilder(); for (int i = 0; i < n; i++) {"
                + " t.append('x').append(i); } return t.toString(); }");
        keeps("void refuse() { throw new IllegalStateException(\"words\"); } void too() { throw new"
                + " IllegalArgumentException(); }");
        keeps("private static final class Link { Link next; } int count(Link first) { int n = 0;"
                + " for (Link link = first; link != null; link = link.next) { n++; } return n; }");
        Checks.same("a package is told", Language.complaints("package one; " + program("")).isEmpty(), false);
        Checks.same("a program that does not compile is told", Language.complaints("class {").isEmpty(), false);
    }

    private static void classesAndTypes() throws IOException {
        breaks(2, "void one() { Runnable r = () -> { }; }");
        breaks(2, "void one() { Runnable r = this::one; }");
        breaks(2, "void one() { class Local { } }");
        breaks(2, "public static class Seen { }");
        breaks(2, "class Inner { }");
        breaks(3, "long[][][] three;");
        breaks(3, "java.util.Map<String, String> map;");
        breaks(3, "Long one() { return 1L; }");
        breaks(3, "double one(double a) { return a % 2.0; }");
        breaks(10, "String one(int a) { return \"a\" + a; }");
    }

    private static void libraryAndStatics() throws IOException {
        breaks(4, "double one(double a) { return Math.rint(a); }");
        breaks(4, "double one(double a) { return Math.abs(a); }");
        breaks(4, "int one(int a) { return Math.addExact(a, a); }");
        breaks(4, "String one(String a) { return a.trim(); }");
        breaks(4, "void one(StringBuilder a) { a.append(1L); }");
        breaks(4, "char one() { return '\\u00e9'; }");
        breaks(4, "long one() { return System.nanoTime(); }");
        breaks(4, "double one() { return Math.random(); }");
        breaks(4, "Object one() { return new Object(); }");
        Checks.same("an import is told",
                Language.complaints("import java.util.Map; " + program("")).toString().startsWith("[rule 4: "), true);
        breaks(5, "static final int[] ROW = new int[7];");
        breaks(5, "static int count;");
        breaks(5, "static final float HALF = 0.5f;");
        breaks(5, "static { }");
    }

    private static void exceptions() throws IOException {
        breaks(6, "TaflHall() { throw new IllegalStateException(); }");
        breaks(6, "void one() { throw new Error(); }");
        breaks(6, "void one(RuntimeException e) { throw e; }");
        breaks(6, "void one(String a) { throw new IllegalStateException(a); }");
        breaks(6, "void one() { try { one(); } catch (IllegalStateException e) { } }");
        breaks(6, "synchronized void one() { }");
        breaks(6, "void one() { synchronized (this) { } }");
        breaks(6, "void one(int a) { assert a > 0; }");
        breaks(6, "boolean one(String a, String b) { return a == b; }");
        breaks(6, "public int hashCode() { return 1; }");
    }

    private static void machine() throws IOException {
        breaks(7, "int one(int[] a, int i) { return a[i]; }");
        breaks(7, "int one(int[] a, int i) { return i < a.length ? a[i] : 0; }");
        breaks(7, "int one(int a, int b) { return a / b; }");
        breaks(7, "int one(int a, int b) { a %= b; return a; }");
        breaks(7, "int[] one(int a) { return new int[a]; }");
        breaks(7, "String one(Object a) { return (String) a; }");
    }

    private static void callsAndLoops() throws IOException {
        breaks(8, "int one(int a) { return a > 0 ? one(a - 1) : 0; }");
        breaks(8, "void one() { two(); } void two() { one(); }");
        breaks(9, "void one(int a) { while (a > 0) { a--; } }");
        breaks(9, "void one(int a) { do { a--; } while (a > 0); }");
        breaks(9, "void one() { for (int i = 0; ; i++) { } }");
        breaks(9, "void one() { for (int i = 0; i < 9; ) { i++; } }");
        breaks(9, "void one(int a) { for (int i = 0; a < 9; i++) { } }");
        breaks(9, "void one() { for (int i = 0; i < 9; i++) { i = 0; } }");
        breaks(9, "void one() { for (int i = 0; i < 9; i *= 2) { } }");
        breaks(10, "int one(String a) { switch (a) { case \"b\": return 1; default: return 2; } }");
        breaks(10, "String one(String a) { a += 1; return a; }");
        breaks(12, "void one() { for (int i = 0; i < 9; i++) { int[] a = new int[9]; } }");
        breaks(12, "void one() { for (int i = 0; i < 9; i++) { two(); } } void two() { int[] a = new int[9]; }");
    }

    private static void sizes() throws IOException {
        keeps("void one(int a, int b, int c, int d, int e, int f, int g) { }");
        breaks(11, "void one(int a, int b, int c, int d, int e, int f, int g, int h) { }");
        keeps("void one() { " + "\n".repeat(59) + " }");
        breaks(11, "void one() { " + "\n".repeat(60) + " }");
        keeps(chain(8));
        breaks(11, chain(9));
        keeps(repeated("int f#; ", 20));
        breaks(11, repeated("int f#; ", 21));
        keeps(repeated("static class C# { } ", 11));
        breaks(11, repeated("static class C# { } ", 12));
    }

    private static String repeated(String part, int times) {
        StringBuilder text = new StringBuilder();
        for (int i = 0; i < times; i++) {
            text.append(part.replace("#", String.valueOf(i)));
        }
        return text.toString();
    }

    /** So many methods, each of which calls the next one. */
    private static String chain(int length) {
        StringBuilder text = new StringBuilder("void m0() { } ");
        for (int i = 1; i < length; i++) {
            text.append("void m").append(i).append("() { m").append(i - 1).append("(); } ");
        }
        return text.toString();
    }
}

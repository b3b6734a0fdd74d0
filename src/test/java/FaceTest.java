import java.io.IOException;
import java.lang.reflect.Constructor;
import java.lang.reflect.Field;
import java.lang.reflect.Method;
import java.lang.reflect.Modifier;
import java.nio.file.Files;
import java.nio.file.Path;
import java.util.List;
import java.util.Set;
import java.util.TreeSet;
import java.util.regex.Pattern;

/** The public face and those rules of the language that can be seen without reading the program. */
public final class FaceTest {
    private static final Path SOURCE = Path.of("src/main/java/MarkTree.java");
    private static final int MOST_LINES = 60;
    private static final Check check = new Check();

    private static final Set<String> FACE = Set.of(
        "int edition()", "int mark(int)", "int move(int,int)", "int end(int,int)", "int tree(int,int,int)",
        "int below(int,int,int)", "int picture(int,int,int)", "int give(int,int,int,int)", "int doubt(int,int)",
        "int told(int,int)", "int means(int,int,int)", "int led(int,int,int)", "int count(int)",
        "int feed(int,long)", "int rule(int)", "int fault()", "int force(int,int)", "int word(int,int,int)",
        "int leads(int,int)", "int ask()", "int met(int,int,int)", "int hands(int,int,int,int,int)",
        "int together(int,int,int,int,int,int)", "int along(int,int,int)", "int likely(int,int,int)",
        "long lacking(int,int)", "int story()", "int moment(int,int,int)", "int of(int,int,int,int)",
        "int split(int,int,int)");

    public static void main(String[] args) throws IOException {
        face();
        constants();
        otherMembersArePrivate();
        classesInside();
        words();
        nothingIsMadeByCalls();
        methodsAreShort();
        check.finish();
    }

    private static void face() {
        Set<String> found = new TreeSet<>();
        for (Method m : MarkTree.class.getDeclaredMethods()) {
            if (!Modifier.isPublic(m.getModifiers())) continue;
            String args = List.of(m.getParameterTypes()).toString().replaceAll("[\\[\\] ]", "");
            found.add(m.getReturnType() + " " + m.getName() + "(" + args + ")");
        }
        check.that("methods are those of the document: " + found, found.equals(FACE));
        check.that("the class is final", Modifier.isFinal(MarkTree.class.getModifiers()));
        Constructor<?>[] made = MarkTree.class.getDeclaredConstructors();
        check.that("one public constructor", made.length == 1 && Modifier.isPublic(made[0].getModifiers()));
    }

    private static void constants() {
        check.due("NONE", MarkTree.NONE, -1);
        check.due("UNKNOWN", MarkTree.UNKNOWN, -1001);
        check.due("OUTSIDE", MarkTree.OUTSIDE, -1002);
        check.due("NOT", MarkTree.NOT, -1003);
        check.due("FULL", MarkTree.FULL, -1004);
    }

    private static void otherMembersArePrivate() {
        Set<String> named = new TreeSet<>();
        for (String method : FACE) named.add(method.replaceAll(".* |\\(.*", ""));
        for (Method m : MarkTree.class.getDeclaredMethods()) {
            if (Modifier.isPublic(m.getModifiers())) continue;
            check.that(m.getName() + " is private", Modifier.isPrivate(m.getModifiers()));
            check.that(m.getName() + " bears no public name", !named.contains(m.getName()));
        }
        for (Field f : MarkTree.class.getDeclaredFields()) {
            boolean constant = Set.of("NONE", "UNKNOWN", "OUTSIDE", "NOT", "FULL").contains(f.getName());
            check.that(f.getName() + " is private or of the face", constant || Modifier.isPrivate(f.getModifiers()));
        }
    }

    private static void classesInside() {
        Class<?>[] inside = MarkTree.class.getDeclaredClasses();
        check.that("some twelve classes", inside.length <= 12);
        for (Class<?> c : inside) {
            check.that(c.getName() + " is static", Modifier.isStatic(c.getModifiers()));
            int fields = 0;
            for (Field f : c.getDeclaredFields()) {
                if (Modifier.isStatic(f.getModifiers())) check.that(f.getName() + " is final", Modifier.isFinal(f.getModifiers()));
                else fields++;
            }
            check.that(c.getName() + " has some twenty fields", fields <= 20);
            for (Method m : c.getDeclaredMethods()) check.that(m.getName() + " has seven parameters", m.getParameterCount() <= 7);
        }
    }

    private static String source() throws IOException {
        return Files.readString(SOURCE).replaceAll("(?s)/\\*.*?\\*/", "").replaceAll("//.*", "");
    }

    private static void words() throws IOException {
        String source = source();
        String[] barred = {"\\bthrow\\b", "\\bthrows\\b", "\\btry\\b", "\\bcatch\\b", "\\bsynchronized\\b", "\\bassert\\b",
            "->", "::", "\\bpackage\\b", "\\bprotected\\b", "Exact\\b", "\\bSystem\\.(?!arraycopy)", "\\bequals\\b",
            "\\bhashCode\\b", "\\btoString\\b", "\\bvolatile\\b", "\\btransient\\b", "\\bnative\\b", "[^\\x00-\\x7f]"};
        for (String word : barred) check.that("no " + word, !Pattern.compile(word).matcher(source).find());
        for (String line : source.split("\n")) {
            if (line.startsWith("import")) check.due(line, line.equals("import java.util.Arrays;") ? 0 : 1, 0);
        }
    }

    /** Objects are made as fields of the classes inside, and in the one constructor. */
    private static void nothingIsMadeByCalls() throws IOException {
        String source = source();
        int from = source.indexOf("public MarkTree()");
        String rest = source.substring(0, from) + source.substring(source.indexOf("}", from));
        for (String line : rest.split("\n")) {
            if (!line.contains("new ")) continue;
            check.that("made as a field: " + line.trim(), line.matches("        (private )?final [\\w\\[\\]]+ \\w+ = new .*;"));
        }
    }

    private static void methodsAreShort() throws IOException {
        int length = 0;
        for (String line : Files.readAllLines(SOURCE)) {
            boolean ends = line.matches("(    |        )\\}");
            length = line.isEmpty() || ends ? 0 : length + 1;
            check.that("a method of at most " + MOST_LINES + " lines at: " + line, length <= MOST_LINES);
        }
    }
}

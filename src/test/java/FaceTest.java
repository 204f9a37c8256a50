import java.io.IOException;
import java.lang.reflect.Constructor;
import java.lang.reflect.Field;
import java.lang.reflect.Method;
import java.lang.reflect.Modifier;
import java.nio.file.Files;
import java.nio.file.Path;
import java.util.Arrays;
import java.util.Set;
import java.util.TreeSet;
import java.util.regex.Matcher;
import java.util.regex.Pattern;

/** The face of the class, and what LANGUAGE.md lets a test see of the source. */
public final class FaceTest {
    private static final Check CHECK = new Check("FaceTest");

    public static void main(String[] args) throws IOException {
        face();
        hiddenMethods();
        source(Files.readString(Path.of("src/main/java/PointsTo.java")));
        CHECK.end();
    }

    private static void face() {
        CHECK.same("modifiers", Modifier.toString(PointsTo.class.getModifiers()), "public final");
        Set<String> members = new TreeSet<>();
        for (Method m : PointsTo.class.getDeclaredMethods()) {
            if (!Modifier.isPrivate(m.getModifiers())) {
                members.add(m.toString().replace("PointsTo.", "").replace("java.lang.", "").replace("java.util.", ""));
            }
        }
        for (Constructor<?> c : PointsTo.class.getDeclaredConstructors()) {
            members.add(c.toString());
        }
        for (Field f : PointsTo.class.getDeclaredFields()) {
            if (!Modifier.isPrivate(f.getModifiers())) {
                members.add(f.toString());
            }
        }
        CHECK.same("members", members, new TreeSet<>(Arrays.asList(
            "public PointsTo()",
            "public int append(long,int) throws IllegalArgumentException,IllegalStateException",
            "public int cut(int) throws IllegalArgumentException",
            "public int read() throws IllegalArgumentException",
            "public int fault()",
            "public int may(int,int) throws NoSuchElementException",
            "public int holds(int,int,int) throws NoSuchElementException",
            "public int goes(int,int) throws NoSuchElementException",
            "public int reached(int) throws NoSuchElementException",
            "public int safe(int) throws NoSuchElementException",
            "public int alias(int,int) throws NoSuchElementException",
            "public int method(int,int) throws NoSuchElementException,IllegalArgumentException",
            "public int run() throws NoSuchElementException,UnsupportedOperationException,"
                + "IndexOutOfBoundsException,IllegalStateException",
            "public int seen(int,int) throws NoSuchElementException",
            "public int count(int) throws IllegalArgumentException")));
        for (Class<?> c : PointsTo.class.getDeclaredClasses()) {
            boolean hidden = !Modifier.isPublic(c.getModifiers()) && !Modifier.isProtected(c.getModifiers());
            CHECK.same(c.getName() + " is hidden and static", hidden && Modifier.isStatic(c.getModifiers()), true);
            long fields = Arrays.stream(c.getDeclaredFields()).filter(f -> !Modifier.isStatic(f.getModifiers())).count();
            CHECK.same(c.getName() + " has at most twenty fields", fields <= 20, true);
        }
        CHECK.same("at most twelve classes", PointsTo.class.getDeclaredClasses().length < 12, true);
    }

    /** Rules 1 and 11: no hidden method has a name of the face, none more than seven parameters. */
    private static void hiddenMethods() {
        Set<String> open = new TreeSet<>();
        Set<String> hidden = new TreeSet<>();
        for (Method m : PointsTo.class.getDeclaredMethods()) {
            (Modifier.isPublic(m.getModifiers()) ? open : hidden).add(m.getName());
        }
        for (Class<?> c : PointsTo.class.getDeclaredClasses()) {
            for (Method m : c.getDeclaredMethods()) {
                hidden.add(m.getName());
                CHECK.same(m + " has at most seven parameters", m.getParameterCount() <= 7, true);
            }
        }
        hidden.retainAll(open);
        CHECK.same("hidden methods with a name of the face", hidden.toString(), "[]");
    }

    private static void source(String source) {
        String bare = source.replaceAll("/\\*\\*[\\s\\S]*?\\*/", "").replaceAll("//.*", "");
        String[] forbidden = {"->", "::", "static \\{", "\\bpackage\\b", "\\bfinally\\b", "\\bassert\\b",
            "\\bsynchronized\\b", "\\bcatch\\b", "\\bMap\\b", "\\bSystem\\.(?!arraycopy)", "\\bRandom\\b", "\\bvar\\b",
            "while \\(true\\)", "for \\(;;\\)"};
        for (String f : forbidden) {
            CHECK.same("the source has " + f, Pattern.compile(f).matcher(bare).find(), false);
        }
        Set<String> imports = new TreeSet<>();
        Matcher m = Pattern.compile("import (.*);").matcher(bare);
        while (m.find()) {
            imports.add(m.group(1));
        }
        CHECK.same("imports", imports.toString(), "[java.util.Arrays, java.util.NoSuchElementException]");
    }
}

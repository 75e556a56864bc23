import java.io.IOException;
import java.lang.reflect.Constructor;
import java.lang.reflect.Field;
import java.lang.reflect.Method;
import java.lang.reflect.Modifier;
import java.nio.file.Files;
import java.nio.file.Path;
import java.util.ArrayList;
import java.util.List;
import java.util.Set;
import java.util.TreeSet;
import java.util.regex.Matcher;
import java.util.regex.Pattern;

/**
 * The public face, as the document gives it, and nothing beside it (rules 1, 5 and 11 of LANGUAGE.md). It runs in the
 * project's folder.
 */
public final class FaceTest {
    private static final Check check = new Check();
    private static final String I = " IndexOutOfBoundsException";
    private static final String A = " IllegalArgumentException";
    private static final String S = " IllegalStateException";
    private static final String[] FACE = {
        "append(int)" + A + S, "clearText()", "errorPosition()", "load()" + S, "about(int)" + A,
        "segment(int,int)" + A + I, "house(int,int)" + A + I, "wagon(int,int)" + A + I,
        "addHouse(int,int)" + A + S + I, "addWagon(int)" + S + I, "setSurface(int,int)" + A + I,
        "setLimit(int,int)" + A + S + I, "set(int,int)" + A, "drive(int,int)" + S + I, "spray(int,int)" + A + S + I,
        "fill(int)" + S + I, "pass(int)" + A, "undo()" + S, "whyNoFill(int)" + I, "ahead(int,int)" + A + I,
        "waterFor(int)" + I, "limitFor(int)" + I, "bestSpray(int,int)" + A + I, "complainsIn(int)" + I, "dustiest()",
        "runScript(int,long)" + A, "simulate(long,int)" + A, "save(int)" + I, "restore(int)" + S + I};

    public static void main(String[] args) throws IOException {
        Set<String> due = new TreeSet<>(Set.of(FACE));
        Set<String> found = new TreeSet<>();
        Set<String> names = new TreeSet<>();
        for (Method m : RoadDust.class.getDeclaredMethods()) {
            if (!Modifier.isPrivate(m.getModifiers())) {
                check.that(m + " is not plainly public", m.getModifiers() == Modifier.PUBLIC);
                check.that(m + " does not answer an int", m.getReturnType() == int.class);
                found.add(signature(m));
                names.add(m.getName());
            }
        }
        check.that("the methods are " + found + ", due are " + due, found.equals(due));
        check.that("RoadDust is not public and final",
            RoadDust.class.getModifiers() == (Modifier.PUBLIC | Modifier.FINAL));
        Constructor<?>[] constructors = RoadDust.class.getDeclaredConstructors();
        check.that("there is not one public constructor without parameters", constructors.length == 1
            && constructors[0].getModifiers() == Modifier.PUBLIC && constructors[0].getParameterCount() == 0);
        fields(RoadDust.class);
        for (Class<?> inside : RoadDust.class.getDeclaredClasses()) {
            inside(inside, names);
        }
        asWritten();
        check.end();
    }

    /** The declarations in the source are those in the document, word by word and in its order. */
    private static void asWritten() throws IOException {
        String document = Files.readString(Path.of("../shared/DOC.md"));
        Matcher face = Pattern.compile("(?s)## The public face\\s+```java\n(.*?)```").matcher(document);
        check.that("the document has no face", face.find());
        List<String> due = declarations(face.group(1));
        List<String> found = declarations(Files.readString(Path.of("src/main/java/RoadDust.java")));
        check.that("the document's face has " + due.size() + " lines", due.size() == FACE.length + 3);
        for (int k = 0; k < Math.max(due.size(), found.size()); k++) {
            String want = k < due.size() ? due.get(k) : "nothing";
            String got = k < found.size() ? found.get(k) : "nothing";
            check.that("declared is " + got + ", due is " + want, got.equals(want));
        }
    }

    /** What begins with public, up to its body or its semicolon. */
    private static List<String> declarations(String code) {
        List<String> lines = new ArrayList<>();
        Matcher m = Pattern.compile("(?m)^ *(public [^{;]*)[{;]").matcher(code);
        while (m.find()) {
            lines.add(m.group(1).trim().replaceAll("\\s+", " "));
        }
        return lines;
    }

    private static String signature(Method m) {
        StringBuilder line = new StringBuilder(m.getName()).append('(');
        String between = "";
        for (Class<?> type : m.getParameterTypes()) {
            line.append(between).append(type.getName());
            between = ",";
        }
        line.append(')');
        Set<String> thrown = new TreeSet<>();
        for (Class<?> type : m.getExceptionTypes()) {
            thrown.add(type.getSimpleName());
        }
        for (String name : thrown) {
            line.append(' ').append(name);
        }
        return line.toString();
    }

    private static void fields(Class<?> type) {
        int own = 0;
        for (Field f : type.getDeclaredFields()) {
            boolean isStatic = Modifier.isStatic(f.getModifiers());
            check.that(f + " is static and not final", !isStatic || Modifier.isFinal(f.getModifiers()));
            boolean isNone = f.getName().equals("NONE");
            check.that(f + " is not private", type != RoadDust.class || isNone || Modifier.isPrivate(f.getModifiers()));
            own += isStatic ? 0 : 1;
        }
        check.that(type + " has " + own + " fields", own <= 20);
    }

    private static void inside(Class<?> type, Set<String> face) {
        int modifiers = type.getModifiers();
        check.that(type + " is public or protected", !Modifier.isPublic(modifiers) && !Modifier.isProtected(modifiers));
        check.that(type + " is not static", Modifier.isStatic(modifiers));
        fields(type);
        for (Method m : type.getDeclaredMethods()) {
            check.that(m + " bears the name of a method of the face", !face.contains(m.getName()));
        }
    }
}

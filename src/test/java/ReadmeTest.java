import java.io.IOException;
import java.io.OutputStream;
import java.lang.reflect.Method;
import java.lang.reflect.Modifier;
import java.net.URL;
import java.net.URLClassLoader;
import java.nio.file.Files;
import java.nio.file.Path;
import java.util.ArrayList;
import java.util.List;
import java.util.Set;
import java.util.TreeSet;
import java.util.regex.Matcher;
import java.util.regex.Pattern;
import java.util.stream.Stream;
import javax.tools.JavaCompiler;
import javax.tools.ToolProvider;

/**
 * What README.md tells: its Java is compiled and run, and each call there has to give the answer that stands behind it;
 * the calls and the tests that it lists are those that there are. It runs in the project's folder.
 */
public final class ReadmeTest {
    private static final Check check = new Check();
    private static final Pattern TOLD =
        Pattern.compile("\\s*(road\\.\\w+\\(.*\\));\\s*// (-?\\d+|throws \\w+)\\b.*");
    private static final int FEWEST_ANSWERS = 25;

    private static int answers;

    public static void main(String[] args) throws Exception {
        String readme = Files.readString(Path.of("README.md"));
        for (String wrong : answersOf(program(readme))) {
            check.that("README.md: " + wrong, false);
        }
        check.that("README.md tells " + answers + " answers only", answers >= FEWEST_ANSWERS);
        calls(readme);
        files(readme);
        check.end();
    }

    /** A class that runs each block of Java, and notes in a list which lines tell what is not so. */
    private static String program(String readme) {
        StringBuilder source = new StringBuilder("public final class ReadmeRun {\n"
            + "public static void run(java.util.List<String> wrong) {\n");
        Matcher block = Pattern.compile("(?s)```java\n(.*?)```").matcher(readme);
        while (block.find()) {
            source.append("{\n");
            block.group(1).lines().forEach(line -> source.append(tested(line)).append('\n'));
            source.append("}\n");
        }
        return source.append("}\n}\n").toString();
    }

    private static String tested(String line) {
        Matcher told = TOLD.matcher(line);
        if (!told.matches()) {
            check.that("README.md: a call without its answer: " + line, !line.trim().startsWith("road."));
            return line;
        }
        answers++;
        String call = told.group(1);
        String quoted = "\"" + line.trim().replace("\\", "\\\\").replace("\"", "\\\"") + "\"";
        if (told.group(2).startsWith("throws ")) {
            String thrown = told.group(2).substring("throws ".length());
            return "try { " + call + "; wrong.add(" + quoted + "); } catch (" + thrown + " e) { }";
        }
        return "{ long got = " + call + "; if (got != " + told.group(2) + ") wrong.add(" + quoted
            + " + \", but it answers \" + got); }";
    }

    private static List<String> answersOf(String program) throws Exception {
        Path folder = Files.createTempDirectory("readme");
        try {
            Path source = Files.writeString(folder.resolve("ReadmeRun.java"), program);
            JavaCompiler compiler = ToolProvider.getSystemJavaCompiler();
            int code = compiler.run(null, null, OutputStream.nullOutputStream(), "-d", folder.toString(), "-cp",
                System.getProperty("java.class.path"), source.toString());
            return code == 0 ? run(folder) : List.of("its Java does not compile");
        } finally {
            delete(folder);
        }
    }

    private static List<String> run(Path folder) throws Exception {
        List<String> wrong = new ArrayList<>();
        try (URLClassLoader loader = new URLClassLoader(new URL[] {folder.toUri().toURL()})) {
            loader.loadClass("ReadmeRun").getMethod("run", List.class).invoke(null, wrong);
        }
        return wrong;
    }

    private static void delete(Path folder) throws IOException {
        try (Stream<Path> files = Files.list(folder)) {
            for (Path file : files.toList()) {
                Files.delete(file);
            }
        }
        Files.delete(folder);
    }

    private static void calls(String readme) {
        Set<String> listed = new TreeSet<>();
        Set<String> due = new TreeSet<>();
        Matcher row = Pattern.compile("(?m)^\\|.*\\| (`.*) \\|$").matcher(readme);
        while (row.find()) {
            Matcher name = Pattern.compile("`(\\w+)`").matcher(row.group(1));
            while (name.find()) {
                listed.add(name.group(1));
            }
        }
        for (Method m : RoadDust.class.getDeclaredMethods()) {
            if (Modifier.isPublic(m.getModifiers())) {
                due.add(m.getName());
            }
        }
        check.that("README.md lists the calls " + listed + ", there are " + due, listed.equals(due));
    }

    private static void files(String readme) throws IOException {
        for (String path : new String[] {"src/main/java/RoadDust.java", "../shared/DOC.md", "../shared/LANGUAGE.md",
                "../shared/tests", ".ci/run"}) {
            check.that("README.md does not tell " + path, readme.contains(path));
            check.that("there is no " + path, Files.exists(Path.of(path)));
        }
        try (Stream<Path> tests = Files.list(Path.of("src/test/java"))) {
            for (Path test : tests.toList()) {
                String name = test.getFileName().toString().replace(".java", "");
                check.that("README.md does not tell of " + name, !name.endsWith("Test") || readme.contains("`" + name + "`"));
            }
        }
    }
}

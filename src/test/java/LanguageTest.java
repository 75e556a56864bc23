import java.io.IOException;
import java.nio.file.Files;
import java.nio.file.Path;
import java.util.ArrayList;
import java.util.List;
import java.util.Set;
import java.util.regex.Matcher;
import java.util.regex.Pattern;

/** What a look at the source tells of the rules of LANGUAGE.md; it runs in the project's folder. */
public final class LanguageTest {
    private static final Check check = new Check();
    /** What must stand nowhere outside of comments and texts. */
    private static final String[] FORBIDDEN = {
        "->", "::", "\\bimport\\b", "\\bpackage\\b", "\\btry\\b", "\\bcatch\\b", "\\bfinally\\b", "\\bsynchronized\\b",
        "\\bassert\\b", "\\bstatic\\s*\\{", "\\bprotected\\b", "\\bthrow\\s+(?!new\\b)", "\\bSystem\\.(?!arraycopy)",
        "\\w+Exact\\b", "\\bObject\\b", "\\bThread\\b", "\\bvar\\b", "@"};
    /** The classes of the program and the ones of the library that it uses; rule 4 allows some more. */
    private static final Set<String> CLASSES = Set.of("RoadDust", "Segment", "House", "Wagon", "Road", "History", "Text",
        "Math", "IllegalArgumentException", "IllegalStateException", "IndexOutOfBoundsException");
    private static final Set<String> FUNCTIONS = Set.of("Math.min", "Math.max", "Math.abs");
    private static final int LONGEST_METHOD = 60;

    public static void main(String[] args) throws IOException {
        String source = Files.readString(Path.of("src/main/java/RoadDust.java"));
        check.that("a sign beyond 127", source.chars().allMatch(c -> c < 128));
        String code = bare(source);
        for (String forbidden : FORBIDDEN) {
            Matcher m = Pattern.compile(forbidden).matcher(code);
            check.that("forbidden: " + forbidden, !m.find());
        }
        only(CLASSES, code, "\\b[A-Z]\\w*[a-z]\\w*");
        only(FUNCTIONS, code, "\\bMath\\s*\\.\\s*\\w+");
        check.that("texts joined by +", count(code, "\"\"\\s*\\+|\\+\\s*\"\"") == 0);
        check.that("more than 12 classes", count(code, "\\b(class|enum|interface|record)\\s+\\w+") <= 12);
        check.that("an exception that is not written out in full",
            count(code, "\\bthrow\\b") == count(code, "throw new (IllegalState|IllegalArgument|IndexOutOfBounds)Exception\\(\"\"\\);"));
        methods(code);
        check.end();
    }

    /** The source without comments, and without what stands in texts. */
    private static String bare(String source) {
        return source.replaceAll("(?s)/\\*.*?\\*/", "").replaceAll("//[^\n]*", "").replaceAll("\"[^\"\n]*\"", "\"\"");
    }

    private static long count(String code, String pattern) {
        return Pattern.compile(pattern).matcher(code).results().count();
    }

    private static void only(Set<String> allowed, String code, String pattern) {
        Matcher m = Pattern.compile(pattern).matcher(code);
        while (m.find()) {
            check.that("not in the list of what the program uses: " + m.group(), allowed.contains(m.group()));
        }
    }

    private static void methods(String code) {
        List<String> lines = new ArrayList<>(code.lines().toList());
        int start = -1;
        String indent = "";
        for (int k = 0; k < lines.size(); k++) {
            String line = lines.get(k);
            Matcher head = Pattern.compile("^( {4}| {8})\\S.*\\)( \\{)?$").matcher(line);
            if (start < 0 && head.find() && !line.contains(" class ")) {
                start = k;
                indent = head.group(1);
                check.that("too many parameters: " + line, line.chars().filter(c -> c == ',').count() < 7);
            } else if (start >= 0 && line.equals(indent + "}")) {
                check.that("a long method at the bare line " + start, k - start < LONGEST_METHOD);
                start = -1;
            }
        }
    }
}

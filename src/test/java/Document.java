import java.io.IOException;
import java.io.UncheckedIOException;
import java.nio.file.Files;
import java.nio.file.Path;
import java.util.ArrayList;
import java.util.HashSet;
import java.util.List;
import java.util.Set;
import java.util.regex.Matcher;
import java.util.regex.Pattern;

/**
 * The words of ../shared/DOC.md, by promises (0: what stands before the first one), and which of them the tests have
 * quoted. It is read in the project's folder.
 */
final class Document {
    private static final int PROMISES = 30;
    private static final String[] HEADINGS = new String[PROMISES + 1];
    private static final List<List<String>> LINES = new ArrayList<>();
    private static final Set<String> QUOTED = new HashSet<>();

    static {
        read();
    }

    private Document() {
    }

    private static void read() {
        for (int k = 0; k <= PROMISES; k++) {
            LINES.add(new ArrayList<>());
        }
        HEADINGS[0] = "Terms";
        int promise = 0;
        for (String line : lines()) {
            Matcher m = Pattern.compile("## Promise (\\d+): .*").matcher(line);
            if (m.matches()) {
                promise = Integer.parseInt(m.group(1));
                HEADINGS[promise] = line.substring(3);
            } else if (line.startsWith("## ") && promise > 0) {
                return;
            } else {
                LINES.get(promise).add(plain(line));
            }
        }
    }

    private static List<String> lines() {
        try {
            return Files.readAllLines(Path.of("../shared/DOC.md"));
        } catch (IOException e) {
            throw new UncheckedIOException(e);
        }
    }

    /** The words without the marks of Markdown. */
    private static String plain(String line) {
        return line.replace("```text", "").replace("`", "").trim().replaceAll("\\s+", " ");
    }

    static String heading(int promise) {
        return HEADINGS[promise];
    }

    /** Notes that a test is about these words; answers whether the document says them there. */
    static boolean quoted(int promise, String words) {
        QUOTED.add(promise + " " + words);
        return String.join(" ", LINES.get(promise)).replaceAll("\\s+", " ").contains(words);
    }

    /**
     * The lines of the promises that name an exception or the numbers of an argument, and that no test is about: a line
     * of an exception is quoted whole, of the others a part is enough.
     */
    static List<String> unquoted() {
        List<String> missing = new ArrayList<>();
        for (int promise = 1; promise <= PROMISES; promise++) {
            for (String line : LINES.get(promise)) {
                boolean isException = line.startsWith("Throws ");
                boolean isNumber = line.matches("- \\w+: .*\\d.*");
                boolean whole = QUOTED.contains(promise + " " + line);
                if (isException && !whole || isNumber && !quotedInPart(promise, line)) {
                    missing.add(HEADINGS[promise] + ": " + line);
                }
            }
        }
        return missing;
    }

    private static boolean quotedInPart(int promise, String line) {
        String start = promise + " ";
        for (String quote : QUOTED) {
            if (quote.startsWith(start) && line.contains(quote.substring(start.length()))) {
                return true;
            }
        }
        return false;
    }
}

import java.io.IOException;
import java.nio.charset.StandardCharsets;
import java.nio.file.Files;
import java.nio.file.Paths;
import java.util.ArrayList;
import java.util.Arrays;
import java.util.List;
import java.util.regex.Matcher;
import java.util.regex.Pattern;

/**
 * Which sentences of DOC.md the tests of edges hold the class to: a test quotes a sentence before
 * its checks. A quote that the document does not have is a fault, and so is a quote without a check
 * behind it, and a sentence of the terms or of a promise that no test quotes.
 */
final class Sentence {
    /** Part 0 is that of the terms, part n is that of promise n. */
    private static final String[] PARTS = new String[61];
    private static final boolean[][] HELD = new boolean[PARTS.length][];

    private static String latest = "";
    private static int checksBefore;

    private Sentence() {
    }

    static void open(String path) throws IOException {
        String document = Files.readString(Paths.get(path), StandardCharsets.UTF_8);
        PARTS[0] = between(document, "## Terms", "## Promise 1:");
        for (int promise = 1; promise < PARTS.length; promise++) {
            PARTS[promise] = between(document, "## Promise " + promise + ":", "\n## ");
            // The signature is FaceTest's.
            PARTS[promise] = PARTS[promise].replaceFirst("^[^`]*`[^`]*`:?", "");
        }
        for (int part = 0; part < PARTS.length; part++) {
            HELD[part] = new boolean[PARTS[part].length()];
        }
    }

    private static String between(String document, String begin, String end) {
        int from = document.indexOf(begin) + begin.length();
        int to = document.indexOf(end, from);
        return document.substring(from, to).replaceAll("```(text)?", "").replaceAll("\\s+", " ");
    }

    /** The checks behind this call are those of these words of a part of the document. */
    static void of(int part, String... quotes) {
        end();
        for (String words : quotes) {
            latest = "DOC.md, promise " + part + ": " + words;
            boolean found = false;
            int from = PARTS[part].indexOf(words);
            while (from >= 0) {
                found = true;
                Arrays.fill(HELD[part], from, from + words.length(), true);
                from = PARTS[part].indexOf(words, from + words.length());
            }
            Check.yes(latest + ": that it stands there", found);
        }
        checksBefore = Check.passed() + Check.failed();
    }

    /** The sentences of a part that have a form. */
    static List<String> all(int part, String form) {
        List<String> found = new ArrayList<>();
        Matcher matcher = Pattern.compile(form).matcher(PARTS[part] + " ");
        while (matcher.find()) {
            found.add(matcher.group());
        }
        return found;
    }

    /** The sentence that the checks are of, for the message of a fault. */
    static String latest() {
        return latest;
    }

    /** The checks behind this call are of no sentence. */
    static void end() {
        Check.yes(latest + ": that a check is behind it", latest.isEmpty() || Check.passed() + Check.failed() > checksBefore);
        latest = "";
    }

    /** All sentences must have been quoted. */
    static void close() {
        end();
        for (int part = 0; part < PARTS.length; part++) {
            StringBuilder rest = new StringBuilder();
            for (int i = 0; i < PARTS[part].length(); i++) {
                rest.append(HELD[part][i] ? '|' : PARTS[part].charAt(i));
            }
            for (String words : rest.toString().split("\\|+")) {
                Check.yes("DOC.md, promise " + part + ": a test of «" + words.trim() + "»", !words.matches(".*[a-zA-Z0-9].*"));
            }
        }
    }
}

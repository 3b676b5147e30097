import java.io.IOException;
import java.io.UncheckedIOException;
import java.nio.file.Files;
import java.nio.file.Path;
import java.util.ArrayList;
import java.util.List;
import java.util.Map;
import java.util.TreeMap;
import java.util.regex.Matcher;
import java.util.regex.Pattern;

/**
 * The document, sentence by sentence. A test quotes the sentence that it tests; a quote that is not
 * in the document, a quote without a check behind it and a sentence without a quote are failures.
 */
final class Doc {
    private static final Path DOCUMENT = Path.of("../shared/DOC.md");
    private static final Pattern PROMISE =
            Pattern.compile("^## Promise (\\d+): .*?$(.*?)(?=^## )", Pattern.MULTILINE | Pattern.DOTALL);
    private static final Pattern SECTION = Pattern.compile(
            "^(\\d)\\. \\w.*?$(.*?)(?=^\\d\\. \\w|\\z)", Pattern.MULTILINE | Pattern.DOTALL);
    /** Lines that say nothing of their own: signatures, headings, and arguments without a range. */
    private static final Pattern SILENT = Pattern.compile(
            "`.*|The constants:|The constructor and the methods follow.*|- `\\w+`: \\D*");

    private static final Map<String, Part> PARTS = read();
    private static String quoted = "";
    private static int checksBefore = 0;

    private Doc() {
    }

    /** A promise, or a section of the description, and which of its signs have been quoted. */
    private static final class Part {
        final String text;
        final boolean[] seen;

        Part(String text) {
            this.text = text;
            this.seen = new boolean[text.length()];
        }
    }

    private static Map<String, Part> read() {
        Map<String, Part> parts = new TreeMap<>();
        String all;
        try {
            all = Files.readString(DOCUMENT);
        } catch (IOException e) {
            throw new UncheckedIOException(e);
        }
        Matcher promise = PROMISE.matcher(all);
        while (promise.find()) {
            parts.put("promise " + promise.group(1), new Part(promise.group(2)));
        }
        int start = all.indexOf("## Description");
        Matcher section = SECTION.matcher(all.substring(start, all.indexOf("## Promise 1:")));
        while (section.find()) {
            parts.put("section " + section.group(1), new Part(section.group(2)));
        }
        return parts;
    }

    static void promise(int number, String sentence) {
        quote("promise " + number, sentence);
    }

    static void section(int number, String sentence) {
        quote("section " + number, sentence);
    }

    private static void quote(String where, String sentence) {
        endSentence();
        quoted = where + " \"" + sentence + "\"";
        Part part = PARTS.get(where);
        int at = part == null ? -1 : part.text.indexOf(sentence);
        if (at < 0) {
            Check.same("the document has " + quoted, false, true);
        } else {
            java.util.Arrays.fill(part.seen, at, at + sentence.length(), true);
        }
        checksBefore = Check.count();
    }

    /** What is being tested, for the text of a failure. */
    static String now() {
        return quoted;
    }

    private static void endSentence() {
        if (!quoted.isEmpty() && Check.count() == checksBefore) {
            Check.same(quoted + " has a check", false, true);
        }
    }

    static void everySentenceIsQuoted() {
        endSentence();
        quoted = "";
        Check.same("parts of the document", PARTS.size(), 57 + 6);
        PARTS.forEach((where, part) -> Check.same("without a test: " + where, unquoted(part), List.of()));
    }

    private static List<String> unquoted(Part part) {
        List<String> found = new ArrayList<>();
        int start = 0;
        for (String line : part.text.split("\n", -1)) {
            StringBuilder left = new StringBuilder();
            for (int i = 0; i < line.length(); i++) {
                left.append(part.seen[start + i] ? ' ' : line.charAt(i));
            }
            boolean silent = line.isBlank() || SILENT.matcher(line).matches();
            if (!silent && Pattern.compile("\\w").matcher(left).find()) {
                found.add(left.toString().strip());
            }
            start += line.length() + 1;
        }
        return found;
    }
}

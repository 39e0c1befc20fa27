import java.io.IOException;
import java.nio.file.Files;
import java.nio.file.Path;
import java.util.ArrayList;
import java.util.List;
import java.util.regex.Matcher;
import java.util.regex.Pattern;
import java.util.stream.Stream;

/**
 * Every word of "What it is", "Terms" and the promises is quoted by a test that holds the class to it. That
 * the quotes stand in the document is looked at where they are told (Bounds); that the tests would fail, by
 * reading them.
 */
public final class SentencesTest {
    private static final Path DOCUMENT = Path.of("../shared/DOC.md");
    private static final Path TESTS = Path.of("src/test/java");
    private static final Pattern QUOTE = Pattern.compile("promise\\(\\d+,\\s*((?:\"[^\"]*\"\\s*\\+?\\s*)+)\\)");
    private static final Pattern TEXT = Pattern.compile("\"([^\"]*)\"");
    private static final Pattern WORD = Pattern.compile("[A-Za-z0-9]");
    /** No test can break what is free; the face is LanguageTest's; the other ones only name and number. */
    private static final String[] NO_SENTENCES = {"what later calls answer is free\\.", "## The public face.*?(?=## Terms)",
        "## Not promised.*", "# ChoreHouse(?= ## What)", "## What it is", "## Terms", "```(text)?", "==== \\d\\.",
        "Ahead of the calls .*? the interface says: ---- [A-Z]+\\.", "## Promise \\d+: \\w+( new object)?", "`[^`]*`:"};

    public static void main(String[] args) throws IOException {
        String document = Files.readString(DOCUMENT).replaceAll("\\s+", " ");
        boolean[] told = new boolean[document.length()];
        for (String pattern : NO_SENTENCES) {
            Matcher place = Pattern.compile(pattern).matcher(document);
            while (place.find()) {
                mark(told, place.start(), place.end());
            }
        }
        List<String> quotes = quotes();
        for (String quote : quotes) {
            for (int at = document.indexOf(quote); at >= 0; at = document.indexOf(quote, at + 1)) {
                mark(told, at, at + quote.length());
            }
        }
        int left = printUntold(document, told);
        System.out.println(left == 0 ? "each sentence is quoted, by " + quotes.size() + " tests" : left + " places without a test");
        if (left != 0) {
            System.exit(1);
        }
    }

    private static void mark(boolean[] told, int from, int end) {
        for (int i = from; i < end; i++) {
            told[i] = true;
        }
    }

    private static List<String> quotes() throws IOException {
        List<String> quotes = new ArrayList<>();
        try (Stream<Path> files = Files.list(TESTS)) {
            for (Path file : files.sorted().toList()) {
                Matcher call = QUOTE.matcher(Files.readString(file));
                while (call.find()) {
                    StringBuilder words = new StringBuilder();
                    Matcher text = TEXT.matcher(call.group(1));
                    while (text.find()) {
                        words.append(text.group(1));
                    }
                    quotes.add(words.toString());
                }
            }
        }
        return quotes;
    }

    private static int printUntold(String document, boolean[] told) {
        int places = 0;
        int from = 0;
        for (int i = 0; i <= told.length; i++) {
            if (i == told.length || told[i]) {
                String left = document.substring(from, i);
                if (WORD.matcher(left).find()) {
                    places++;
                    System.out.println("no test quotes: " + left.trim());
                }
                from = i + 1;
            }
        }
        return places;
    }
}

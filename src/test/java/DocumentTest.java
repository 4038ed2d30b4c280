import java.io.IOException;
import java.nio.file.Files;
import java.nio.file.Path;
import java.util.ArrayList;
import java.util.List;
import java.util.regex.Matcher;
import java.util.regex.Pattern;
import java.util.stream.Stream;

/** Each sentence of the document is quoted by some test, and what tests quote stands in the document. */
public final class DocumentTest {
    private static final Path DOCUMENT = Path.of("../shared/DOC.md");
    private static final Path TESTS = Path.of("src/test/java");
    private static final String TEXT = "\"((?:[^\"\\\\]|\\\\.)*)\"";

    /** What stands between sentences, names no answer of its own, or tells of no call (none names another order). */
    private static final String[] LINKS = {"Calls that are refused answer", "where a call names them in another order, in that",
        "or a ONE's letter and", "STRUCK", "RUNS", "WAGES", "CHANGE", "NONE", "The constants", "Ahead of the calls",
        "the interface says", "people, land, the state", "months", "printing, buying, waiting", "forgers, clerks",
        "and", "or"};

    public static void main(String[] args) throws IOException {
        if (!Files.exists(DOCUMENT)) {
            System.out.println("DocumentTest: there is no " + DOCUMENT + " to hold the tests against");
            return;
        }
        String document = plain(Files.readString(DOCUMENT));
        List<String> quotes = new ArrayList<>();
        for (String source : sources()) {
            collect(source, document, quotes);
        }
        unquoted(document, quotes);
        Check.finish("DocumentTest");
    }

    private static String plain(String text) {
        return text.replaceAll("\\s+", " ");
    }

    private static List<String> sources() throws IOException {
        List<String> all = new ArrayList<>();
        try (Stream<Path> files = Files.list(TESTS)) {
            for (Path file : files.sorted().toList()) {
                if (!file.endsWith("DocumentTest.java")) {
                    // Texts that are joined over several lines are one text here.
                    all.add(Files.readString(file).replaceAll("\"\\s*\\+\\s*\"", ""));
                }
            }
        }
        return all;
    }

    /** What a test names by Check.sentence has to be the document's; reasons are quoted by constants. */
    private static void collect(String source, String document, List<String> quotes) {
        Matcher named = Pattern.compile("(?:Check\\.sentence\\(|String [A-Z]+ =\\s*)" + TEXT).matcher(source);
        while (named.find()) {
            String quote = plain(named.group(1)).trim();
            if (named.group().startsWith("Check") || document.contains(quote)) {
                Check.due("in the document: " + quote, document.contains(quote) ? 1 : 0, 1);
                quotes.add(quote);
            }
        }
    }

    private static void unquoted(String document, List<String> quotes) {
        boolean[] quoted = new boolean[document.length()];
        for (String quote : quotes) {
            for (int at = document.indexOf(quote); at >= 0; at = document.indexOf(quote, at + 1)) {
                for (int i = at; i < at + quote.length(); i++) {
                    quoted[i] = true;
                }
            }
        }
        StringBuilder rest = new StringBuilder();
        for (int i = document.indexOf("## Terms") + 8; i < document.indexOf("## Not promised"); i++) {
            rest.append(quoted[i] ? '|' : document.charAt(i));
        }
        // Headings and the face are FormTest's.
        String bare = rest.toString().replaceAll("```(text)?", "|").replaceAll("## Promise \\d+: [\\w ]+", "|")
            .replaceAll("`[^`]*`", "|");
        for (String link : LINKS) {
            bare = bare.replaceAll("\\b" + link + "\\b", "");
        }
        for (String piece : bare.split("\\|+")) {
            Check.same("a sentence without a test", piece.replaceAll("[^A-Za-z]", "").isEmpty() ? "" : piece, "");
        }
    }
}

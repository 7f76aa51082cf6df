import java.io.IOException;
import java.nio.file.DirectoryStream;
import java.nio.file.Files;
import java.nio.file.Path;
import java.util.ArrayList;
import java.util.List;
import java.util.regex.Matcher;
import java.util.regex.Pattern;

/** What the tests quote stands in the document, and what the document promises is quoted by a test, word by word. */
final class QuotesTest {
    private static final Kit KIT = new Kit();
    private static final Path DOCUMENT = Path.of("../shared/DOC.md");
    private static final Pattern SAYS = Pattern.compile("says\\(((?:\\s*\\+?\\s*\"(?:[^\"\\\\]|\\\\.)*\")+)\\)");
    private static final Pattern LITERAL = Pattern.compile("\"((?:[^\"\\\\]|\\\\.)*)\"");
    private static final Pattern WORDS = Pattern.compile("[^\\x00]*[A-Za-z0-9][^\\x00]*");
    // Headings, signatures (FaceTest has these) and words that no call can show.
    private static final String[] NEEDS_NO_TEST = {
        "## Promise \\d+: [A-Za-z ]+? (?=`)", "`(int \\w+|IceSway)\\([a-z, ]*\\)`:", "```text", "```", "======== \\d",
        "Words in capitals are told where they come first\\.", "Ahead of the calls .*? the interface says: ---- [a-z ,]+\\.?"};

    public static void main(String[] args) throws IOException {
        if (!Files.isRegularFile(DOCUMENT)) {
            System.out.println("no document stands here: nothing to hold the quotes to");
            return;
        }
        String document = oneLine(Files.readString(DOCUMENT));
        int from = document.indexOf("## Terms") + "## Terms".length();
        int to = document.indexOf("## Not promised");
        KIT.due("the document has its headings", from < to ? 1 : 0, 1);
        char[] left = document.substring(from, to).toCharArray();
        String promised = new String(left);
        for (String quote : quotes()) {
            KIT.due("stands in the document: " + quote, document.contains(quote) ? 1 : 0, 1);
            strike(left, promised, Pattern.compile(Pattern.quote(quote)));
        }
        for (String pattern : NEEDS_NO_TEST) {
            strike(left, promised, Pattern.compile(pattern));
        }
        Matcher unquoted = WORDS.matcher(new String(left));
        while (unquoted.find()) {
            KIT.due("no test quotes \"" + unquoted.group().trim() + "\"", 1, 0);
        }
        KIT.end();
    }

    private static List<String> quotes() throws IOException {
        List<String> quotes = new ArrayList<>();
        try (DirectoryStream<Path> files = Files.newDirectoryStream(Path.of("src/test/java"), "*Test.java")) {
            for (Path file : files) {
                Matcher says = SAYS.matcher(Files.readString(file));
                while (says.find()) {
                    StringBuilder quote = new StringBuilder();
                    Matcher literal = LITERAL.matcher(says.group(1));
                    while (literal.find()) {
                        quote.append(literal.group(1));
                    }
                    quotes.add(oneLine(quote.toString()));
                }
            }
        }
        return quotes;
    }

    private static String oneLine(String text) {
        return text.replaceAll("\\s+", " ");
    }

    private static void strike(char[] left, String promised, Pattern pattern) {
        Matcher found = pattern.matcher(promised);
        while (found.find()) {
            for (int i = found.start(); i < found.end(); i++) {
                left[i] = 0;
            }
        }
    }
}

import java.io.IOException;
import java.nio.file.Files;
import java.nio.file.Path;
import java.util.List;
import java.util.regex.Matcher;
import java.util.regex.Pattern;

/** What of LANGUAGE.md can be seen in the source by its words alone. */
final class LanguageTest {
    private static final Kit KIT = new Kit();
    private static final String[] FORBIDDEN = {
        "package", "import", "throw", "throws", "try", "catch", "synchronized", "assert", "volatile", "transient", "native",
        "strictfp", "Object", "String", "Thread", "Exception", "Error", "var", "double", "float", "hashCode", "toString",
        "equals", "MAX_VALUE", "MIN_VALUE"};
    private static final int MOST_LINES_OF_A_METHOD = 60;

    public static void main(String[] args) throws IOException {
        List<String> lines = Files.readAllLines(Path.of("src/main/java/IceSway.java"));
        StringBuilder code = new StringBuilder();
        for (String line : lines) {
            for (int i = 0; i < line.length(); i++) {
                KIT.due("sign of " + line, line.charAt(i) < 128 ? 1 : 0, 1);
            }
            String trimmed = line.trim();
            boolean comment = trimmed.startsWith("//") || trimmed.startsWith("/**");
            code.append(comment ? "" : line).append('\n');
        }
        for (String word : FORBIDDEN) {
            KIT.due("word " + word, Pattern.compile("\\b" + word + "\\b").matcher(code).find() ? 1 : 0, 0);
        }
        KIT.due("lambdas and method references", code.indexOf("->") >= 0 || code.indexOf("::") >= 0 ? 1 : 0, 0);
        KIT.due("classes", count(code, "\\bclass\\b") <= 12 ? 1 : 0, 1);
        onlyConstructorsMake(lines);
        methodsAreShort(lines);
        interfaceSays(lines);
        KIT.end();
    }

    private static int count(CharSequence code, String pattern) {
        Matcher matcher = Pattern.compile(pattern).matcher(code);
        int found = 0;
        while (matcher.find()) {
            found++;
        }
        return found;
    }

    /** A call makes no object, so a run's room depends on its objects alone: 'new' stands in fields and constructors only. */
    private static void onlyConstructorsMake(List<String> lines) {
        boolean inConstructor = false;
        for (String line : lines) {
            String trimmed = line.trim();
            if (trimmed.matches("(public )?[A-Z]\\w*\\(.*\\) \\{")) {
                inConstructor = true;
            } else if (trimmed.matches("(public |private |static )*(int|long|boolean|void) \\w+\\(.*\\) \\{")) {
                inConstructor = false;
            }
            boolean field = trimmed.matches("(private )?final .* = new .*;");
            boolean makes = Pattern.compile("\\bnew\\b").matcher(trimmed).find() && !trimmed.startsWith("/");
            KIT.due("made in a call: " + trimmed, makes && !field && !inConstructor ? 1 : 0, 0);
        }
    }

    private static void methodsAreShort(List<String> lines) {
        int start = -1;
        int indent = 0;
        for (int i = 0; i < lines.size(); i++) {
            String line = lines.get(i);
            String trimmed = line.trim();
            int blanks = line.length() - line.stripLeading().length();
            if (trimmed.matches("(public |private |static )*(int|long|boolean|void) \\w+\\(.*\\{")) {
                start = i;
                indent = blanks;
            } else if (start >= 0 && trimmed.equals("}") && blanks == indent) {
                KIT.due("long: " + lines.get(start).trim(), i - start < MOST_LINES_OF_A_METHOD ? 1 : 0, 1);
                start = -1;
            }
        }
    }

    /** The document's headings of the interface stand ahead of the calls that it names, and these come in its order. */
    private static void interfaceSays(List<String> lines) {
        StringBuilder order = new StringBuilder();
        for (String line : lines) {
            Matcher heading = Pattern.compile("    // (---- .*)").matcher(line);
            Matcher call = Pattern.compile("    public int (\\w+)\\(.*").matcher(line);
            if (heading.matches()) {
                order.append(heading.group(1)).append(": ");
            } else if (call.matches()) {
                order.append(call.group(1)).append(' ');
            }
        }
        String want = "---- the cut: feed cut fault told yard grows ---- what is done: night thaw beat out drift "
            + "---- tried (t 1 .. 999): today bestBeat laggards horses string turn plan lost odds noFall "
            + "---- what was bored: bore kinds write tear judge ---- draws, images: seed keep goBack ";
        KIT.due("headings and calls: " + order, order.toString().equals(want) ? 1 : 0, 1);
    }
}

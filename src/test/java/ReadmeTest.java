import java.io.IOException;
import java.lang.reflect.InvocationTargetException;
import java.lang.reflect.Method;
import java.lang.reflect.Modifier;
import java.nio.file.Files;
import java.nio.file.Path;
import java.util.Set;
import java.util.TreeSet;
import java.util.regex.Matcher;
import java.util.regex.Pattern;

/** README.md's example is true, call by call, shows every call of the class, and every test has its line. */
final class ReadmeTest {
    private static final Kit KIT = new Kit();
    private static final Pattern EXAMPLE = Pattern.compile("```java\\n(.*?)```", Pattern.DOTALL);
    private static final Pattern TEXT = Pattern.compile("String text = \"([^\"]*)\";");
    private static final Pattern CALL = Pattern.compile("(?m)^x\\.(\\w+)\\(([-0-9, ]*)\\);\\s+// (-?\\d+):");

    public static void main(String[] args) throws IOException, ReflectiveOperationException {
        String readme = Files.readString(Path.of("README.md"));
        Matcher example = EXAMPLE.matcher(readme);
        KIT.due("there is an example", example.find() ? 1 : 0, 1);
        String code = example.group(1);
        Matcher text = TEXT.matcher(code);
        KIT.due("it tells a text", text.find() ? 1 : 0, 1);
        IceSway x = new IceSway();
        Kit.feedAll(x, text.group(1));
        Set<String> unseen = callsOfTheClass();
        unseen.remove("feed");
        Matcher call = CALL.matcher(code);
        int read = 0;
        while (call.find()) {
            unseen.remove(call.group(1));
            read++;
            KIT.due(call.group(), answer(x, call.group(1), call.group(2)), Long.parseLong(call.group(3)));
        }
        KIT.due("lines of calls that could be read", read, code.lines().filter(line -> line.startsWith("x.")).count());
        KIT.due("calls without an example: " + unseen, unseen.size(), 0);
        testsAreListed(readme);
        KIT.end();
    }

    private static Set<String> callsOfTheClass() {
        Set<String> names = new TreeSet<>();
        for (Method m : IceSway.class.getDeclaredMethods()) {
            if (Modifier.isPublic(m.getModifiers())) {
                names.add(m.getName());
            }
        }
        return names;
    }

    private static int answer(IceSway x, String name, String list) throws IllegalAccessException, InvocationTargetException {
        String[] parts = list.isBlank() ? new String[0] : list.split(",");
        Object[] numbers = new Object[parts.length];
        for (int i = 0; i < parts.length; i++) {
            numbers[i] = Integer.valueOf(parts[i].trim());
        }
        for (Method m : IceSway.class.getDeclaredMethods()) {
            if (m.getName().equals(name) && m.getParameterCount() == numbers.length) {
                return (int) m.invoke(x, numbers);
            }
        }
        throw new IllegalStateException("README.md has a call that there is not: " + name);
    }

    private static void testsAreListed(String readme) throws IOException {
        try (var files = Files.newDirectoryStream(Path.of("src/test/java"), "*Test.java")) {
            for (Path file : files) {
                String name = file.getFileName().toString().replace(".java", "");
                KIT.due("README.md lists " + name, readme.contains("| `" + name + "` |") ? 1 : 0, 1);
            }
        }
    }
}

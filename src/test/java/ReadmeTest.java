import java.io.IOException;
import java.lang.reflect.Method;
import java.lang.reflect.Modifier;
import java.nio.file.DirectoryStream;
import java.nio.file.Files;
import java.nio.file.Path;
import java.util.Set;
import java.util.TreeSet;
import java.util.regex.Matcher;
import java.util.regex.Pattern;

/** README.md: the answers that stand behind its calls, and that no method, class inside or test is left out. */
public final class ReadmeTest {
    private static final Pattern EXAMPLE = Pattern.compile("^x\\.(\\w+)\\(([^)]*)\\); *// (-?\\d+|[A-Z_]+)(:.*)?$");

    private static int argument(String text) {
        switch (text) {
            case "false": return 0;
            case "true": return 1;
            default: return Integer.parseInt(text);
        }
    }

    private static long answer(String text) throws ReflectiveOperationException {
        boolean isConstant = Character.isLetter(text.charAt(0));
        return isConstant ? NumerationSystems.class.getField(text).getLong(null) : Long.parseLong(text);
    }

    private static Call call(String name, String list) {
        String[] texts = list.split(", ");
        int[] arguments = new int[texts.length];
        for (int i = 0; i < texts.length; i++) {
            arguments[i] = argument(texts[i]);
        }
        return new Call(name, arguments);
    }

    /** All examples are calls on one object, from the first to the last. */
    private static Set<String> examples(String readme) throws ReflectiveOperationException {
        NumerationSystems x = new NumerationSystems();
        Set<String> called = new TreeSet<>();
        for (String line : readme.split("\n")) {
            if (line.startsWith("x.")) {
                Matcher matcher = EXAMPLE.matcher(line);
                boolean isExample = matcher.find();
                Check.holds("a call with its answer: " + line, isExample);
                if (isExample) {
                    Check.due("README.md: " + line, answer(matcher.group(3)), call(matcher.group(1), matcher.group(2)).on(x));
                    called.add(matcher.group(1));
                }
            }
        }
        return called;
    }

    public static void main(String[] args) throws IOException, ReflectiveOperationException {
        String readme = Files.readString(Path.of("README.md"));
        Set<String> called = examples(readme);
        for (Method method : NumerationSystems.class.getDeclaredMethods()) {
            if (Modifier.isPublic(method.getModifiers())) {
                Check.holds("README.md calls " + method.getName(), called.contains(method.getName()));
            }
        }
        for (Class<?> inside : NumerationSystems.class.getDeclaredClasses()) {
            Check.holds("README.md names " + inside, readme.contains("| `" + inside.getSimpleName() + "` |"));
        }
        try (DirectoryStream<Path> tests = Files.newDirectoryStream(Path.of("src/test/java"), "*Test.java")) {
            for (Path test : tests) {
                String name = test.getFileName().toString().replace(".java", "");
                Check.holds("README.md names " + name, readme.contains("`" + name + "`"));
            }
        }
        Check.finish("ReadmeTest");
    }
}

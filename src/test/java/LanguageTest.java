import java.io.IOException;
import java.nio.charset.StandardCharsets;
import java.nio.file.Files;
import java.nio.file.Path;
import java.util.regex.Matcher;
import java.util.regex.Pattern;

/** Those rules of LANGUAGE.md that can be seen in the text of the program. */
public final class LanguageTest {
    private static final String[] FORBIDDEN = {
        "\\bimport\\b", "\\bpackage\\b", "\\bthrow\\b", "\\bthrows\\b", "\\btry\\b", "\\bcatch\\b", "\\bfinally\\b",
        "\\bsynchronized\\b", "\\bvolatile\\b", "\\bassert\\b", "->", "::", "\\bvar\\b", "\\bprotected\\b", "\\bSystem\\s*\\.(?!arraycopy)",
        "\\bThread\\b", "\\bRandom\\b", "Math\\s*\\.\\s*\\w*Exact", "\\bequals\\b", "\\bhashCode\\b", "\\btoString\\b", "@", "\\bnative\\b",
        "\\bgoto\\b", "\\binterface\\s*\\(", "\\(\\s*\\)\\s*\\{\\s*\\{", "static\\s*\\{"};
    private static final int MOST_LINES = 60;
    private static final int MOST_PARAMETERS = 7;

    private static String withoutComments(String text) {
        return text.replaceAll("(?s)/\\*.*?\\*/", "").replaceAll("//[^\\n]*", "");
    }

    private static void forbidden(String code) {
        for (String pattern : FORBIDDEN) {
            Matcher matcher = Pattern.compile(pattern).matcher(code);
            Check.holds("nothing like " + pattern, !matcher.find());
        }
    }

    private static void signs(String text) {
        for (int i = 0; i < text.length(); i++) {
            Check.holds("sign " + (int) text.charAt(i), text.charAt(i) < 128 && text.charAt(i) > 0);
        }
    }

    private static void methods(String[] lines) {
        Pattern head = Pattern.compile("^( {4}| {8})(public|private) [^;=]*\\(([^)]*)\\) \\{$");
        for (int i = 0; i < lines.length; i++) {
            Matcher matcher = head.matcher(lines[i]);
            if (matcher.find()) {
                int end = i;
                while (end < lines.length && !lines[end].equals(matcher.group(1) + "}")) {
                    end++;
                }
                Check.holds("line " + (i + 1) + ": a short method", end - i < MOST_LINES);
                Check.holds("line " + (i + 1) + ": few parameters", matcher.group(3).split(",").length <= MOST_PARAMETERS);
            }
        }
    }

    public static void main(String[] args) throws IOException {
        Path source = Path.of("src/main/java/NumerationSystems.java");
        String text = Files.readString(source, StandardCharsets.ISO_8859_1);
        signs(text);
        forbidden(withoutComments(text));
        methods(text.split("\n"));
        Check.finish("LanguageTest");
    }
}

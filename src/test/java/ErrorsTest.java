import java.io.IOException;
import java.nio.file.Files;
import java.nio.file.Path;
import java.util.ArrayList;
import java.util.Arrays;
import java.util.List;
import java.util.Set;
import java.util.TreeSet;
import java.util.regex.Matcher;
import java.util.regex.Pattern;

/**
 * "Where several errors can apply, the order of the @return line is the order of the checks": every
 * error alone, and every two that can apply at once, for each method, by the document's own lines.
 */
public final class ErrorsTest {
    private static final Pattern CONSTANT = Pattern.compile("\\b(UNKNOWN|BAD_VALUE|INCOMPLETE|NOT_POSSIBLE|FULL|NONE|NO_VALUE)\\b");

    /** A digit out of range is in no list; a negative k is not too great. */
    private static final Set<String> NEVER_AT_ONCE = Set.of("addDigit BAD_VALUE NOT_POSSIBLE", "carry BAD_VALUE NONE");

    private static int number(String constant) {
        switch (constant) {
            case "UNKNOWN": return Check.UNKNOWN;
            case "BAD_VALUE": return Check.BAD_VALUE;
            case "INCOMPLETE": return Check.INCOMPLETE;
            case "NOT_POSSIBLE": return Check.NOT_POSSIBLE;
            case "FULL": return Check.FULL;
            case "NO_VALUE": return Check.UNKNOWN;
            default: return Check.NONE;
        }
    }

    /** The constants of a promise's last line that begins with 'Returns', in their order. */
    private static List<String> constantsOf(String promise) {
        List<String> constants = new ArrayList<>();
        for (String line : promise.split("\n")) {
            if (line.startsWith("Returns")) {
                constants.clear();
                Matcher matcher = CONSTANT.matcher(line);
                while (matcher.find()) {
                    if (!constants.contains(matcher.group())) {
                        constants.add(matcher.group());
                    }
                }
            }
        }
        return constants;
    }

    private static void allAreTried(List<Refusals.Refusal> refusals) throws IOException {
        Set<String> tried = new TreeSet<>();
        for (Refusals.Refusal refusal : refusals) {
            tried.add(refusal.call.name + " " + Arrays.toString(refusal.faults));
        }
        String[] promises = Files.readString(Path.of("../shared/DOC.md")).split("## Promise ");
        int methods = 0;
        for (int i = 2; i < promises.length; i++) {
            String method = promises[i].substring(promises[i].indexOf(": ") + 2, promises[i].indexOf('\n')).trim();
            List<String> constants = constantsOf(promises[i]);
            Check.holds(method + " has errors", !constants.isEmpty());
            methods++;
            pairsAreTried(method, constants, tried);
        }
        Check.due("methods in the document", 32, methods);
    }

    private static void pairsAreTried(String method, List<String> constants, Set<String> tried) {
        for (int i = 0; i < constants.size(); i++) {
            String one = constants.get(i);
            Check.holds(method + ": " + one + " alone is tried", tried.contains(method + " " + Arrays.toString(new int[] {number(one)})));
            for (String other : constants.subList(i + 1, constants.size())) {
                String pair = method + " " + Arrays.toString(new int[] {number(one), number(other)});
                boolean possible = !NEVER_AT_ONCE.contains(method + " " + one + " " + other);
                Check.due(method + ": " + one + " with " + other + " is tried", possible ? 1 : 0, tried.contains(pair) ? 1 : 0);
            }
        }
    }

    /** "digit: -20 to 20" and "NOT_POSSIBLE if it is in the list": refused, a digit out of range stays out of the list. */
    private static void digitsOutOfRange() {
        for (int digit = -60; digit <= 60; digit++) {
            NumerationSystems x = new NumerationSystems();
            x.setBase(0, 2, 1);
            boolean inRange = digit >= -20 && digit <= 20;
            boolean given = digit == 0 || digit == 1;
            Check.due("addDigit(0, " + digit + ")", !inRange ? Check.BAD_VALUE : given ? Check.NOT_POSSIBLE : 3, x.addDigit(0, digit));
            Check.due("addDigit(0, " + digit + ") again", inRange ? Check.NOT_POSSIBLE : Check.BAD_VALUE, x.addDigit(0, digit));
            Check.due("removeDigit(0, " + digit + ")", !inRange ? Check.NOT_POSSIBLE : given ? 1 : 2, x.removeDigit(0, digit));
        }
    }

    /** "BAD_VALUE if k is negative" and "NONE if there are not so many": each k is one of both, or a carry. */
    private static void numbersOfCarries() {
        NumerationSystems x = new NumerationSystems();
        x.setBase(0, -10, 9);
        int count = x.carryCount(0);
        for (int k = -count - 2; k <= 2 * count + 2; k++) {
            int answer = x.carry(0, k);
            Check.due("carry(0, " + k + ") is bad", k < 0 ? 1 : 0, answer == Check.BAD_VALUE ? 1 : 0);
            Check.due("carry(0, " + k + ") is none", k >= count ? 1 : 0, answer == Check.NONE ? 1 : 0);
        }
    }

    public static void main(String[] args) throws IOException {
        List<Refusals.Refusal> refusals = Refusals.all();
        for (Refusals.Refusal refusal : refusals) {
            Check.due(refusal.toString(), refusal.due(), refusal.call.on(refusal.state.make()));
        }
        allAreTried(refusals);
        digitsOutOfRange();
        numbersOfCarries();
        Check.finish("ErrorsTest");
    }
}

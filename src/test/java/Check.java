/** Counts and prints the answers that are not as due; a test ends with finish(). */
final class Check {
    static final int UNKNOWN = -1000001;
    static final int BAD_VALUE = -1000002;
    static final int INCOMPLETE = -1000003;
    static final int NOT_POSSIBLE = -1000004;
    static final int FULL = -1000005;
    static final int NONE = -1000006;
    static final long NO_VALUE = Long.MIN_VALUE;

    private static final int MOST_PRINTED = 50;
    private static int made = 0;
    private static int wrong = 0;

    private Check() {
    }

    static void due(String what, long want, long got) {
        made++;
        if (got != want) {
            wrong++;
            if (wrong <= MOST_PRINTED) {
                System.out.println(what + " answered " + got + ", due is " + want);
            }
        }
    }

    static void holds(String what, boolean holds) {
        due(what, 1, holds ? 1 : 0);
    }

    static void finish(String test) {
        System.out.println(test + ": " + made + " checks, " + wrong + " wrong");
        if (wrong != 0) {
            System.exit(1);
        }
    }

    /** Fills a row with the entries given. */
    static void fill(NumerationSystems x, int row, int... entries) {
        x.clear(row);
        for (int entry : entries) {
            x.push(row, entry);
        }
    }

    static void dueRow(String what, NumerationSystems x, int row, int... want) {
        due(what + ": size", want.length, x.size(row));
        for (int i = 0; i < want.length; i++) {
            due(what + ": entry " + i, want[i], x.entry(row, i));
        }
    }

    static void dueList(String what, NumerationSystems x, int system, int... want) {
        due(what + ": digits", want.length, x.system(system, 2));
        for (int i = 0; i < want.length; i++) {
            due(what + ": digit " + i, want[i], x.digitAt(system, i));
        }
        due(what + ": behind the last digit", UNKNOWN, x.digitAt(system, want.length));
    }

    /** Makes the list of a system consist of the digits given. */
    static void giveDigits(NumerationSystems x, int system, int... digits) {
        while (x.system(system, 2) > 0) {
            x.removeDigit(system, x.digitAt(system, 0));
        }
        for (int digit : digits) {
            x.addDigit(system, digit);
        }
    }
}

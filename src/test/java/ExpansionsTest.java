/** Promises 9 to 17: expansions of fractions, and the cycles of integers. */
public final class ExpansionsTest {
    private static final int[] WRONG = {-1, 2, Integer.MIN_VALUE, Integer.MAX_VALUE};
    private static final int[] NO_M = {-100001, 100001, Integer.MIN_VALUE, Integer.MAX_VALUE};
    private static final int[] NO_N = {0, -1, 61, Integer.MIN_VALUE, Integer.MAX_VALUE};
    private static final int[] NO_PLACE = {-1, 1000000001, Integer.MIN_VALUE, Integer.MAX_VALUE};

    private static void sevenths() {
        NumerationSystems x = new NumerationSystems();
        int[] digits = {3, 4, 1, 7, 5, 8, 2, 4, 1, 7, 5, 8, 2};
        int[] numerators = {1, -2, -3, -1, -5, -4, -6, -2, -3, -1, -5, -4, -6};
        for (int i = 0; i < digits.length; i++) {
            Check.due("digit " + i + " of 1 / 7", digits[i], x.digit(0, 1, 7, i));
            Check.due("numerator " + i + " of 1 / 7", numerators[i], x.numerator(0, 1, 7, i));
            Check.due("digit " + i + " of 3 / 21", digits[i], x.digit(1, 3, 21, i));
            Check.due("numerator " + i + " of 3 / 21", 3 * numerators[i], x.numerator(1, 3, 21, i));
        }
        Check.due("preperiod of 1 / 7", 1, x.preperiod(0, 1, 7));
        Check.due("period of 1 / 7", 6, x.period(0, 1, 7));
        Check.due("length of 1 / 7", Check.NONE, x.length(0, 1, 7));
        Check.due("preperiod of -1 / 7", 0, x.preperiod(0, -1, 7));
        // 999999999 and 999999998 are 3 and 2 up to multiples of 6
        Check.due("digit 1000000000 of 1 / 7", 5, x.digit(0, 1, 7, 1000000000));
        Check.due("numerator 1000000000 of 1 / 7", -5, x.numerator(0, 1, 7, 1000000000));
        Check.due("digit 999999999 of 1 / 7", 7, x.digit(0, 1, 7, 999999999));
        Check.due("numerator 999999999 of 1 / 7", -1, x.numerator(0, 1, 7, 999999999));
    }

    private static void otherBases() {
        NumerationSystems x = new NumerationSystems();
        x.setBase(0, 3, 2);
        int[] digits = {2, 0, 2, 1, 2, 0, 0};
        int[] numerators = {10, 6, 4, 2, 1, 0, 0};
        for (int i = 0; i < digits.length; i++) {
            Check.due("digit " + i + " of 10 in 3 / 2", digits[i], x.digit(0, 10, 1, i));
            Check.due("numerator " + i + " of 10 in 3 / 2", numerators[i], x.numerator(0, 10, 1, i));
        }
        Check.due("length of 10 in 3 / 2", 5, x.length(0, 10, 1));
        Check.due("preperiod of 10 in 3 / 2", 5, x.preperiod(0, 10, 1));
        Check.due("period of 10 in 3 / 2", 1, x.period(0, 10, 1));
        Check.due("length of 30 / 3 in 3 / 2", Check.NOT_POSSIBLE, x.length(0, 30, 3));
        Check.due("length of 20 / 2 in 3 / 2", 5, x.length(0, 20, 2));
        // (2 * -1 - 1) / 3 = -1
        Check.due("length of -1 in 3 / 2", Check.NONE, x.length(0, -1, 1));
        Check.due("digit of -1 in 3 / 2", 1, x.digit(0, -1, 1, 77));
        // base -10: -7 = 3 + 1 * -10
        x.setBase(1, -10, 1);
        Check.due("digit 0 of -7 in -10", 3, x.digit(1, -7, 1, 0));
        Check.due("digit 1 of -7 in -10", 1, x.digit(1, -7, 1, 1));
        Check.due("numerator 1 of -7 in -10", 1, x.numerator(1, -7, 1, 1));
        Check.due("length of -7 in -10", 2, x.length(1, -7, 1));
        // base -2: 1 / 3 = 1 + -2 * (1 - 3) / (-2) / 3, so 1 leads to 1
        x.setBase(1, -2, 1);
        Check.due("preperiod of 1 / 3 in -2", 0, x.preperiod(1, 1, 3));
        Check.due("period of 1 / 3 in -2", 1, x.period(1, 1, 3));
        Check.due("length of 1 / 3 in -2", Check.NONE, x.length(1, 1, 3));
        Check.due("digit of 1 / 3 in -2", 1, x.digit(1, 1, 3, 1000000000));
    }

    private static void finiteOrNot() {
        NumerationSystems x = new NumerationSystems();
        Check.due("length of 0", 0, x.length(0, 0, 1));
        Check.due("preperiod of 0", 0, x.preperiod(0, 0, 7));
        Check.due("period of 0", 1, x.period(0, 0, 7));
        Check.due("length of 100000", 6, x.length(0, 100000, 1));
        Check.due("length of 91 / 13", 1, x.length(0, 91, 13));
        Check.due("length of -100000", Check.NONE, x.length(0, -100000, 1));
        Check.due("preperiod of -100000", 5, x.preperiod(0, -100000, 1));
        // With the digit 10 for 0: 5, 0, -1, -1, ..., so 0 occurs and yet the expansion is not finite.
        x.addDigit(0, 10);
        x.choose(0, 10);
        Check.due("numerator 1 of 5", 0, x.numerator(0, 5, 1, 1));
        Check.due("digit 1 of 5", 10, x.digit(0, 5, 1, 1));
        Check.due("numerator 2 of 5", -1, x.numerator(0, 5, 1, 2));
        Check.due("length of 5", Check.NONE, x.length(0, 5, 1));
        Check.due("length of 0", Check.NONE, x.length(0, 0, 1));
        Check.due("preperiod of 5", 2, x.preperiod(0, 5, 1));
        Check.due("period of 5", 1, x.period(0, 5, 1));
        // Base 2 with the digits 2 and -1: 0 and -1 lead to each other, a cycle with 0 in it.
        x.setBase(1, 2, 1);
        Check.giveDigits(x, 1, 2, -1);
        Check.due("period of 0 in a cycle of two", 2, x.period(1, 0, 1));
        Check.due("length of 0 in a cycle of two", Check.NONE, x.length(1, 0, 1));
        // Each step takes away but a tenth.
        x.setBase(1, 10, 9);
        int steps = 0;
        for (int m = 100000; m > 0; m = m * 9 / 10) {
            steps++;
        }
        Check.due("length of 100000 in 10 / 9", steps, x.length(1, 100000, 1));
        Check.due("period of -100000 in 10 / 9", 1, x.period(1, -100000, 1));
    }

    private static void expansionFaults() {
        NumerationSystems x = new NumerationSystems();
        x.setBase(1, -6, 5);
        for (int n = 1; n <= 60; n++) {
            long due = n % 2 == 0 || n % 3 == 0 ? Check.NOT_POSSIBLE : 0;
            Check.due("digit of 0 / " + n, due, x.digit(1, 0, n, 3));
            Check.due("numerator of 0 / " + n, due, x.numerator(1, 0, n, 3));
            Check.due("preperiod of 0 / " + n, due, x.preperiod(1, 0, n));
            Check.due("period of 0 / " + n, due == 0 ? 1 : due, x.period(1, 0, n));
            Check.due("length of 0 / " + n, due, x.length(1, 0, n));
        }
        for (int m : new int[] {-100000, 100000}) {
            Check.holds("m at its edge", x.digit(1, m, 59, 0) >= 0 && x.numerator(1, m, 59, 0) == m
                    && x.preperiod(1, m, 59) > 0 && x.period(1, m, 59) > 0 && x.length(1, m, 59) == Check.NONE);
        }
        dueForAll(x, "incomplete too late", 1, 5, 6, 0, Check.NOT_POSSIBLE);
        x.removeDigit(1, 5);
        dueForAll(x, "incomplete", 1, 5, 7, 0, Check.INCOMPLETE);
        dueForAll(x, "incomplete, a common divisor", 1, 5, 6, 0, Check.INCOMPLETE);
        for (int m : NO_M) {
            dueForAll(x, "m " + m, 1, m, 6, 0, Check.BAD_VALUE);
        }
        for (int n : NO_N) {
            dueForAll(x, "n " + n, 1, 5, n, 0, Check.BAD_VALUE);
        }
        for (int place : NO_PLACE) {
            Check.due("digit at " + place, Check.BAD_VALUE, x.digit(1, 5, 6, place));
            Check.due("numerator at " + place, Check.BAD_VALUE, x.numerator(1, 5, 6, place));
            Check.due("digit at " + place, Check.BAD_VALUE, x.digit(0, 5, 7, place));
            Check.due("numerator at " + place, Check.BAD_VALUE, x.numerator(0, 5, 7, place));
        }
        for (int wrong : WRONG) {
            dueForAll(x, "no system", wrong, 5, 7, 0, Check.UNKNOWN);
            dueForAll(x, "no system, bad values", wrong, 100001, 0, -1, Check.UNKNOWN);
        }
    }

    private static void dueForAll(NumerationSystems x, String what, int system, int m, int n, int place, int due) {
        Check.due("digit: " + what, due, x.digit(system, m, n, place));
        Check.due("numerator: " + what, due, x.numerator(system, m, n, place));
        Check.due("preperiod: " + what, due, x.preperiod(system, m, n));
        Check.due("period: " + what, due, x.period(system, m, n));
        Check.due("length: " + what, due, x.length(system, m, n));
    }

    private static void dueCycle(NumerationSystems x, int system, int k, int least, int elements, int greatest) {
        Check.due("cycle(" + system + ", " + k + ", 0)", least, x.cycle(system, k, 0));
        Check.due("cycle(" + system + ", " + k + ", 1)", elements, x.cycle(system, k, 1));
        Check.due("cycle(" + system + ", " + k + ", 2)", greatest, x.cycle(system, k, 2));
    }

    private static void cycles() {
        NumerationSystems x = new NumerationSystems();
        Check.due("cycleCount(0)", 2, x.cycleCount(0));
        dueCycle(x, 0, 0, -1, 1, -1);
        dueCycle(x, 0, 1, 0, 1, 0);
        Check.due("reachesAll(0)", 0, x.reachesAll(0));
        Check.due("leadsTo(0, -100000)", 0, x.leadsTo(0, -100000));
        Check.due("leadsTo(0, 100000)", 1, x.leadsTo(0, 100000));
        Check.due("leadsTo(0, 0)", 1, x.leadsTo(0, 0));
        x.setBase(0, -10, 1);
        Check.due("cycleCount in -10", 1, x.cycleCount(0));
        Check.due("reachesAll in -10", 1, x.reachesAll(0));
        // Base 3 with the digits 0, 1, 5: -2 and -1 lead to each other, 2 leads to -1, 1 to 0.
        x.setBase(1, 3, 1);
        Check.giveDigits(x, 1, 0, 1, 5);
        Check.due("cycleCount with 0, 1, 5", 2, x.cycleCount(1));
        dueCycle(x, 1, 0, -2, 2, -1);
        dueCycle(x, 1, 1, 0, 1, 0);
        Check.due("leadsTo(1, 2)", 0, x.leadsTo(1, 2));
        Check.due("leadsTo(1, -1)", 0, x.leadsTo(1, -1));
        Check.due("leadsTo(1, -2)", 0, x.leadsTo(1, -2));
        Check.due("leadsTo(1, 1)", 1, x.leadsTo(1, 1));
        Check.due("reachesAll with 0, 1, 5", 0, x.reachesAll(1));
        // One cycle alone, but with 0 and -1 in it.
        x.setBase(1, 2, 1);
        Check.giveDigits(x, 1, 2, 1);
        Check.due("cycleCount with 2, 1", 2, x.cycleCount(1));
        dueCycle(x, 1, 0, -2, 1, -2);
        dueCycle(x, 1, 1, -1, 1, -1);
        Check.giveDigits(x, 1, 2, -1);
        dueCycle(x, 1, 0, -2, 1, -2);
        dueCycle(x, 1, 1, -1, 2, 0);
        dueCycle(x, 1, 2, 1, 1, 1);
        Check.due("cycleCount with 2, -1", 3, x.cycleCount(1));
        Check.due("cycle(1, 3, 0)", Check.NONE, x.cycle(1, 3, 0));
        // Base -2 with the digits 2 and 1: 0 leads to 1, and 1 to 0, and all others lead there.
        x.setBase(1, -2, 1);
        Check.giveDigits(x, 1, 2, 1);
        Check.due("cycleCount in -2 with 2, 1", 1, x.cycleCount(1));
        dueCycle(x, 1, 0, 0, 2, 1);
        Check.due("reachesAll: one cycle that is not 0 alone", 0, x.reachesAll(1));
        // Base -2 with the digits 1 and -4: -3 and 2 lead to each other, around 0, -2, -1, 1.
        x.setBase(1, -2, 1);
        Check.giveDigits(x, 1, 1, -4);
        Check.due("cycleCount with 1, -4", 2, x.cycleCount(1));
        dueCycle(x, 1, 0, -3, 2, 2);
        dueCycle(x, 1, 1, -2, 4, 1);
        int[] zeroth = {-3, 2, -8};
        int[] first = {-2, -1, 0, 1, 3, 4, 5};
        for (int m : zeroth) {
            Check.due("leadsTo(1, " + m + ")", 0, x.leadsTo(1, m));
        }
        for (int m : first) {
            Check.due("leadsTo(1, " + m + ")", 1, x.leadsTo(1, m));
        }
        // The farthest elements: (9 * 20 + 20) / 10 = 20.
        x.setBase(1, 10, 9);
        x.addDigit(1, -20);
        x.choose(1, -20);
        Check.due("cycle(1, 10, 2)", 20, x.cycle(1, x.cycleCount(1) - 1, 2));
        Check.due("leadsTo(1, 20)", x.cycleCount(1) - 1, x.leadsTo(1, 20));
        x.removeDigit(1, -20);
        x.addDigit(1, 20);
        x.choose(1, 20);
        dueCycle(x, 1, 0, -20, 1, -20);
        Check.due("leadsTo(1, -20)", 0, x.leadsTo(1, -20));
    }

    private static void cycleFaults() {
        NumerationSystems x = new NumerationSystems();
        x.removeDigit(1, 0);
        Check.due("cycleCount: incomplete", Check.INCOMPLETE, x.cycleCount(1));
        Check.due("cycle: incomplete", Check.INCOMPLETE, x.cycle(1, 0, 0));
        Check.due("cycle: incomplete, a great k", Check.INCOMPLETE, x.cycle(1, 1000, 2));
        Check.due("leadsTo: incomplete", Check.INCOMPLETE, x.leadsTo(1, 0));
        Check.due("reachesAll: incomplete", Check.INCOMPLETE, x.reachesAll(1));
        for (int what = 0; what < 3; what++) {
            Check.due("cycle: k too great", Check.NONE, x.cycle(0, 2, what));
        }
        Check.due("cycle: k too great", Check.NONE, x.cycle(0, Integer.MAX_VALUE, 2));
        for (int system = 0; system < 2; system++) {
            Check.due("cycle: k -1", Check.BAD_VALUE, x.cycle(system, -1, 0));
            Check.due("cycle: k least", Check.BAD_VALUE, x.cycle(system, Integer.MIN_VALUE, 0));
            for (int what : new int[] {-1, 3, Integer.MIN_VALUE, Integer.MAX_VALUE}) {
                Check.due("cycle: what " + what, Check.BAD_VALUE, x.cycle(system, 0, what));
                Check.due("cycle: what " + what + ", a great k", Check.BAD_VALUE, x.cycle(system, 99, what));
            }
            for (int m : NO_M) {
                Check.due("leadsTo: m " + m, Check.BAD_VALUE, x.leadsTo(system, m));
            }
        }
        for (int wrong : WRONG) {
            Check.due("cycleCount: no system", Check.UNKNOWN, x.cycleCount(wrong));
            Check.due("cycle: no system", Check.UNKNOWN, x.cycle(wrong, 0, 0));
            Check.due("cycle: no system, bad values", Check.UNKNOWN, x.cycle(wrong, -1, 3));
            Check.due("leadsTo: no system", Check.UNKNOWN, x.leadsTo(wrong, 0));
            Check.due("leadsTo: no system, bad m", Check.UNKNOWN, x.leadsTo(wrong, 100001));
            Check.due("reachesAll: no system", Check.UNKNOWN, x.reachesAll(wrong));
        }
    }

    public static void main(String[] args) {
        sevenths();
        otherBases();
        finiteOrNot();
        expansionFaults();
        cycles();
        cycleFaults();
        Check.finish("ExpansionsTest");
    }
}

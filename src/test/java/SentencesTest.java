/**
 * Sentences of the document that tell a boundary case and are no range, no error, no empty and no
 * full list or row: those have RangesTest, ErrorsTest, RefusalTest and EmptyAndFullTest.
 */
public final class SentencesTest {
    private static final int[] EDGES_OF_M = {-100000, -99999, -1, 0, 1, 99999, 100000};

    private static int commonDivisor(int a, int b) {
        return b == 0 ? a : commonDivisor(b, a % b);
    }

    private static boolean isBase(int p, int q) {
        return Math.abs(p) >= 2 && q < Math.abs(p) && commonDivisor(Math.abs(p), q) == 1;
    }

    private static NumerationSystems withBase(int p, int q, int... digits) {
        NumerationSystems x = new NumerationSystems();
        x.setBase(0, p, q);
        Check.giveDigits(x, 0, digits);
        return x;
    }

    /** "An object is used for at most 512 calls": all of them are answered, the last one too. */
    private static void manyCalls() {
        NumerationSystems x = new NumerationSystems();
        for (int i = 0; i < 128; i++) {
            Check.due("call " + (4 * i + 1) + ", choose(0, 9)", 9, x.choose(0, 9));
            Check.due("call " + (4 * i + 2) + ", chosen(0, 9)", 9, x.chosen(0, 9));
            Check.due("call " + (4 * i + 3) + ", removeDigit(0, 9)", 9, x.removeDigit(0, 9));
            Check.due("call " + (4 * i + 4) + ", addDigit(0, 9)", 10, x.addDigit(0, 9));
        }
        dueAsLastCall(3, "setBase", 1, -3, 2);
        dueAsLastCall(5, "digit", 0, 1, 7, 1000000000);
        dueAsLastCall(6, "period", 0, 1, 7);
        dueAsLastCall(2, "cycleCount", 1);
        dueAsLastCall(1, "expansions", 0, 100000, 12);
        dueAsLastCall(6, "shortest", 0, 100000);
        dueAsLastCall(2, "push", 0, 20);
        dueAsLastCall(1, "value", 0, 0, 0);
        dueAsLastCall(6, "load", 0, 100000, 0);
        dueAsLastCall(1, "add", 0, 0, 0, 0);
        dueAsLastCall(3, "multiply", 0, 0, 100, 0);
        dueAsLastCall(1, "convert", 0, 0, 2);
        dueAsLastCall(2, "carryCount", 0);
    }

    private static void dueAsLastCall(long due, String name, int... arguments) {
        NumerationSystems x = new NumerationSystems();
        for (int i = 1; i <= 511; i++) {
            Check.due("call " + i, i % 2, i % 2 == 1 ? x.push(0, 1) : x.clear(0) - 1);
        }
        Call last = new Call(name, arguments);
        Check.due("call 512, " + last, due, last.on(x));
    }

    /** "The residue of an integer is what is left when it is divided by P, from 0 to P - 1 (also for negative integers)." */
    private static void residues() {
        for (int p = -10; p <= 10; p++) {
            for (int digit = -20; digit <= 20 && isBase(p, 1); digit++) {
                NumerationSystems x = withBase(p, 1, digit);
                int size = Math.abs(p);
                int residue = digit;
                while (residue < 0) {
                    residue += size;
                }
                while (residue >= size) {
                    residue -= size;
                }
                for (int i = 0; i < size; i++) {
                    Check.due("base " + p + ", digit " + digit + ": chosen(0, " + i + ")",
                            i == residue ? digit : Check.NONE, x.chosen(0, i));
                }
            }
        }
    }

    /** "A system is complete if each residue is that of some digit." */
    private static void complete() {
        for (int p = -10; p <= 10; p++) {
            for (int digit = 0; digit < Math.abs(p) && isBase(p, 1); digit++) {
                String what = "base " + p + ", without " + digit;
                int size = Math.abs(p);
                NumerationSystems x = new NumerationSystems();
                x.setBase(1, p, 1);
                Check.due(what + ": before", 1, x.system(1, 3));
                x.removeDigit(1, digit);
                Check.due(what, 0, x.system(1, 3));
                Check.due(what + ": cycleCount", Check.INCOMPLETE, x.cycleCount(1));
                x.addDigit(1, digit + size);
                Check.due(what + ", with the next one of its residue", 1, x.system(1, 3));
                x.addDigit(1, digit - size);
                x.removeDigit(1, digit + size);
                Check.due(what + ", with the one before of its residue", 1, x.system(1, 3));
                x.removeDigit(1, digit - size);
                x.addDigit(1, (digit + 1) % size + size);
                Check.due(what + ", with as many digits as residues", 0, x.system(1, 3));
            }
        }
        NumerationSystems x = withBase(2, 1, -20, -18, -16, -14, -12, -10, -8, -6, -4, -2, 0, 2);
        Check.due("twelve digits with one residue", 0, x.system(0, 3));
        x.removeDigit(0, 2);
        x.addDigit(0, 19);
        Check.due("eleven and one", 1, x.system(0, 3));
    }

    /** "The chosen digit of a residue is the first digit of the list with this residue." */
    private static void firstOfTheList() {
        NumerationSystems x = withBase(2, 1, -3, 5, 0, 1, 7, -20);
        Check.due("the first of -3, 5, 1, 7", -3, x.chosen(0, 1));
        Check.due("the first of 0, -20", 0, x.chosen(0, 0));
        x.removeDigit(0, -3);
        Check.due("the first of 5, 1, 7", 5, x.chosen(0, 1));
        x.addDigit(0, -3);
        Check.due("the first of 5, 1, 7, -3", 5, x.chosen(0, 1));
        x.choose(0, 7);
        Check.due("the first of 7, 5, 1, -3", 7, x.chosen(0, 1));
        x.choose(0, -20);
        Check.due("the first of -20, 0", -20, x.chosen(0, 0));
        Check.due("and 7 is still that of the other residue", 7, x.chosen(0, 1));
        x.removeDigit(0, 7);
        Check.due("the first of 5, 1, -3", 5, x.chosen(0, 1));
        Check.dueList("what is left", x, 0, -20, 5, 0, 1, -3);
    }

    /** The step, for every base and every n from 1 to 60: p * m' is q * m - a * n for a chosen digit a. */
    private static void steps() {
        for (int p = -10; p <= 10; p++) {
            for (int q = 1; q <= 9; q++) {
                for (int n = 1; n <= 60 && isBase(p, q); n++) {
                    stepsFor(p, q, n);
                }
            }
        }
    }

    private static void stepsFor(int p, int q, int n) {
        NumerationSystems x = new NumerationSystems();
        x.setBase(0, p, q);
        x.addDigit(0, -20);
        x.choose(0, -20);
        x.addDigit(0, 19);
        x.choose(0, 19);
        boolean possible = commonDivisor(Math.abs(p), n) == 1;
        for (int m : EDGES_OF_M) {
            String what = "base " + p + " / " + q + ", " + m + " / " + n;
            if (!possible) {
                Check.due(what, Check.NOT_POSSIBLE, x.digit(0, m, n, 0));
                Check.due(what, Check.NOT_POSSIBLE, x.numerator(0, m, n, 0));
                continue;
            }
            int a = x.digit(0, m, n, 0);
            int next = x.numerator(0, m, n, 1);
            Check.due(what + ": the numerator 0", m, x.numerator(0, m, n, 0));
            Check.due(what + ": the step", q * m - a * n, p * next);
            Check.due(what + ": the digit is chosen", a, x.chosen(0, Math.floorMod(a, Math.abs(p))));
            Check.due(what + ": the digit 1", x.digit(0, next, n, 0), x.digit(0, m, n, 1));
        }
    }

    /** "the preperiod is the least i ...; the period is the least d above 0 ...", and the places far behind. */
    private static void repetitions() {
        int[][] fractions = {{1, 7}, {100000, 59}, {-100000, 59}, {0, 1}, {7, 7}, {-1, 1}, {99991, 57}, {1, 49}};
        for (int[] base : new int[][] {{10, 1}, {-10, 1}, {10, 9}, {-10, 9}, {2, 1}, {-4, 3}, {5, 4}}) {
            for (int[] fraction : fractions) {
                NumerationSystems x = new NumerationSystems();
                x.setBase(0, base[0], base[1]);
                if (commonDivisor(Math.abs(base[0]), fraction[1]) == 1) {
                    dueRepetition(x, fraction[0], fraction[1]);
                }
            }
        }
    }

    private static void dueRepetition(NumerationSystems x, int m, int n) {
        int i = x.preperiod(0, m, n);
        int d = x.period(0, m, n);
        String what = "base " + x.system(0, 0) + " / " + x.system(0, 1) + ", " + m + " / " + n + ": ";
        Check.holds(what + "preperiod " + i + ", period " + d, i >= 0 && d > 0);
        int first = x.numerator(0, m, n, i);
        Check.due(what + "numerator " + (i + d), first, x.numerator(0, m, n, i + d));
        Check.holds(what + "numerator " + (i - 1) + " does not occur again",
                i == 0 || x.numerator(0, m, n, i - 1) != x.numerator(0, m, n, i - 1 + d));
        for (int e = 1; e <= d / 2; e++) {
            Check.holds(what + "no period of " + e, d % e != 0 || x.numerator(0, m, n, i + e) != first);
        }
        for (int place = 999999990; place <= 1000000000; place++) {
            int near = i + (place - i) % d;
            Check.due(what + "numerator " + place, x.numerator(0, m, n, near), x.numerator(0, m, n, place));
            Check.due(what + "digit " + place, x.digit(0, m, n, near), x.digit(0, m, n, place));
        }
    }

    /** "its length is then the least i for which numerator i is 0" - for 0 at once. */
    private static void lengths() {
        NumerationSystems x = new NumerationSystems();
        for (int n = 1; n <= 60; n++) {
            boolean possible = n % 2 != 0 && n % 5 != 0;
            Check.due("length of 0 / " + n, possible ? 0 : Check.NOT_POSSIBLE, x.length(0, 0, n));
            Check.due("length of n / " + n, possible ? 1 : Check.NOT_POSSIBLE, x.length(0, n, n));
            Check.due("length of 10 n / " + n, possible ? 2 : Check.NOT_POSSIBLE, x.length(0, 10 * n, n));
            Check.due("length of -n / " + n, possible ? Check.NONE : Check.NOT_POSSIBLE, x.length(0, -n, n));
        }
        // 0 is reached, but the step from it gives 10 and leads on; with 0 chosen again all is as before.
        x = new NumerationSystems();
        x.addDigit(0, 10);
        Check.due("length of 9 by 0, ..., 9, 10", 1, x.length(0, 9, 1));
        x.choose(0, 10);
        Check.due("numerator 1 of 9 by 10, 0, ..., 9", 0, x.numerator(0, 9, 1, 1));
        Check.due("length of 9 by 10, 0, ..., 9", Check.NONE, x.length(0, 9, 1));
        Check.due("length of 0 by 10, 0, ..., 9", Check.NONE, x.length(0, 0, 1));
        Check.due("load of 0 by 10, 0, ..., 9", Check.NOT_POSSIBLE, x.load(0, 0, 0));
        Check.due("reachesAll by 10, 0, ..., 9", 0, x.reachesAll(0));
        x.choose(0, 0);
        Check.due("length of 9 by 0, 10, ..., 9", 1, x.length(0, 9, 1));
        Check.due("load of 0 by 0, 10, ..., 9", 0, x.load(0, 0, 0));
    }

    /** "Cycles are numbered from 0 by their least elements, in ascending order." */
    private static void numberedCycles() {
        dueNumbers(withBase(10, 9, -20, 1, 2, 3, 4, 5, 6, 7, 8, 9));
        dueNumbers(withBase(10, 9, 20, 1, 2, 3, 4, 5, 6, 7, 8, 9));
        dueNumbers(withBase(-10, 9, 0, 1, -8, 3, 14, 5, 6, -13, 8, 19));
        dueNumbers(withBase(2, 1, 20, -19));
        dueNumbers(withBase(2, 1, -20, 19));
        dueNumbers(withBase(-2, 1, 20, 19));
        dueNumbers(withBase(-2, 1, 1, -4));
        dueNumbers(withBase(3, 1, 0, 1, 5));
        dueNumbers(withBase(3, 2, 0, 20, -20));
        // The longest cycles there are. By -20 and 17 in base 2, -17 and 20 stay, and all between them follow one another.
        NumerationSystems x = withBase(2, 1, -20, 17);
        dueNumbers(x);
        dueCycles(x, new int[][] {{-17, 1, -17}, {-16, 36, 19}, {20, 1, 20}});
        // By -18 and 19 in base -2, -6 stays, and 18 is the last one behind -18.
        x = withBase(-2, 1, -18, 19);
        dueNumbers(x);
        dueCycles(x, new int[][] {{-18, 36, 18}, {-6, 1, -6}});
        for (int m = -18; m <= 18; m++) {
            Check.due("leadsTo(0, " + m + ") by -18, 19", m == -6 ? 1 : 0, x.leadsTo(0, m));
        }
    }

    private static void dueCycles(NumerationSystems x, int[][] cycles) {
        Check.due("number of cycles", cycles.length, x.cycleCount(0));
        for (int k = 0; k < cycles.length; k++) {
            for (int what = 0; what < 3; what++) {
                Check.due("cycle(0, " + k + ", " + what + ")", cycles[k][what], x.cycle(0, k, what));
            }
        }
    }

    private static void dueNumbers(NumerationSystems x) {
        int count = x.cycleCount(0);
        String what = "base " + x.system(0, 0) + " / " + x.system(0, 1) + ", digits " + x.digitAt(0, 0) + ", ...: ";
        Check.holds(what + "there is a cycle", count > 0);
        for (int k = 0; k < count; k++) {
            int least = x.cycle(0, k, 0);
            Check.holds(what + "cycle " + k + " begins above the one before", k == 0 || least > x.cycle(0, k - 1, 0));
            Check.due(what + "the least element of cycle " + k + " leads to it", k, x.leadsTo(0, least));
            Check.due(what + "the greatest element of cycle " + k + " leads to it", k, x.leadsTo(0, x.cycle(0, k, 2)));
            Check.due(what + "cycle " + k + " has no preperiod", 0, x.preperiod(0, least, 1));
            Check.due(what + "the elements of cycle " + k, x.period(0, least, 1), x.cycle(0, k, 1));
            dueWithin(x, what, k);
        }
        Check.due(what + "no cycle " + count, Check.NONE, x.cycle(0, count, 0));
        Check.holds(what + "-100000 leads to a cycle", x.leadsTo(0, -100000) >= 0 && x.leadsTo(0, -100000) < count);
        Check.holds(what + "100000 leads to a cycle", x.leadsTo(0, 100000) >= 0 && x.leadsTo(0, 100000) < count);
    }

    private static void dueWithin(NumerationSystems x, String what, int k) {
        int least = x.cycle(0, k, 0);
        int smallest = least;
        int largest = least;
        for (int i = 1; i < x.cycle(0, k, 1); i++) {
            smallest = Math.min(smallest, x.numerator(0, least, 1, i));
            largest = Math.max(largest, x.numerator(0, least, 1, i));
        }
        Check.due(what + "the least element of cycle " + k, smallest, least);
        Check.due(what + "the greatest element of cycle " + k, largest, x.cycle(0, k, 2));
    }

    private static void dueRowNumber(NumerationSystems x, int m, int k, int... want) {
        for (int i = 0; i < want.length; i++) {
            Check.due("row " + k + " of " + m + ", entry " + i, want[i], x.expansionDigit(0, m, want.length, k, i));
        }
    }

    /** "Returns their number, 1000000 if it is greater": just below, just there and just above. */
    private static void aMillionRows() {
        NumerationSystems x = withBase(3, 1, 4, -1, 6, 7, -5, -4, 0, -6, 2, -2, 3, 1);
        Check.due("999999 rows", 999999, x.expansions(0, 54000, 11));
        dueRowNumber(x, 54000, 0, 6, 4, 4, 6, 4, 4, 6, 4, 6, 6, -2);
        dueRowNumber(x, 54000, 999998, 3, 2, 2, 1, 3, 2, 1, 3, 1, 2, 0);
        Check.due("999999 rows: no row 999999", Check.NONE, x.expansionDigit(0, 54000, 11, 999999, 0));
        x = withBase(3, 1, -4, 6, 7, 1, -1, -2, 0, -5, -6, 4, 5);
        Check.due("1000000 rows", 1000000, x.expansions(0, 62903, 12));
        dueRowNumber(x, 62903, 0, -4, -4, 7, 6, 6, 7, -4, -4, -4, -4, 6, -1);
        dueRowNumber(x, 62903, 999999, 5, 5, -6, -6, 5, -6, 4, 4, 5, 4, 5, -2);
        Check.due("1000000 rows: no number 1000000", Check.BAD_VALUE, x.expansionDigit(0, 62903, 12, 1000000, 0));
        Check.due("1000001 rows", 1000000, x.expansions(0, 34950, 12));
        dueRowNumber(x, 34950, 999999, -6, -6, 4, 4, 4, 4, 4, 5, -6, -6, 6, -1);
        Check.due("1000001 rows: no number 1000000", Check.BAD_VALUE, x.expansionDigit(0, 34950, 12, 1000000, 0));
    }

    /** "The rows are ordered by their entries 0, then 1, and so on, digits by their places in the list." */
    private static void orderOfRows() {
        // 2 is 2, 0 and 0, 1 and -2, 2; with the list turned round, the rows turn round.
        NumerationSystems x = withBase(2, 1, 2, 0, 1, -2);
        Check.due("rows of 2", 3, x.expansions(0, 2, 2));
        dueRowNumber(x, 2, 0, 2, 0);
        dueRowNumber(x, 2, 1, 0, 1);
        dueRowNumber(x, 2, 2, -2, 2);
        x.choose(0, 0);
        dueRowNumber(x, 2, 0, 0, 1);
        dueRowNumber(x, 2, 1, 2, 0);
        x.choose(0, -2);
        dueRowNumber(x, 2, 0, -2, 2);
        dueRowNumber(x, 2, 1, 0, 1);
        dueRowNumber(x, 2, 2, 2, 0);
        x.removeDigit(0, 0);
        Check.due("rows of 2 without 0", 1, x.expansions(0, 2, 2));
        Check.due("rows of 2 without 0: row 1", Check.NONE, x.expansionDigit(0, 2, 2, 1, 0));
    }

    /** "Returns the least number, up to 12, of digits of the list", chosen or not, also 0. */
    private static void shortestRows() {
        NumerationSystems x = withBase(2, 1, 0, 1, -1);
        for (int power = 0; power < 12; power++) {
            Check.due("shortest of 2^" + power, power + 1, x.shortest(0, 1 << power));
            Check.due("shortest of -2^" + power, power + 1, x.shortest(0, -(1 << power)));
            Check.due("shortest of 2^" + (power + 1) + " - 1", power + 1, x.shortest(0, (2 << power) - 1));
        }
        Check.due("shortest of 4096", Check.NONE, x.shortest(0, 4096));
        Check.due("shortest of -4096", Check.NONE, x.shortest(0, -4096));
        x.addDigit(0, 2);
        Check.due("shortest of 4096 with the digit 2", 12, x.shortest(0, 4096));
        Check.due("shortest of 8190 with the digit 2", 12, x.shortest(0, 8190));
        Check.due("shortest of 8191 with the digit 2", Check.NONE, x.shortest(0, 8191));
        Check.due("shortest of 2 with the digit 2, not chosen", 1, x.shortest(0, 2));
        Check.giveDigits(x, 0, 5, 7);
        Check.due("shortest of 0 without 0", 0, x.shortest(0, 0));
        Check.due("expansions of 0 without digits", 1, x.expansions(0, 0, 0));
        Check.due("expansions of 0 with one digit", 0, x.expansions(0, 0, 1));
    }

    private static void dueCarries(String what, NumerationSystems x, int... want) {
        Check.due(what + ": carryCount", want.length, x.carryCount(0));
        for (int k = 0; k < want.length; k++) {
            Check.due(what + ": carry " + k, want[k], x.carry(0, k));
        }
        Check.due(what + ": one carry more", Check.NONE, x.carry(0, want.length));
    }

    /** "0 included", "(perhaps the same one twice)", "digits of the list", "each any number of times, perhaps none". */
    private static void possibleCarries() {
        dueCarries("1 comes by 1 + 1 alone", withBase(2, 1, 0, 1), 0, 1);
        dueCarries("-1 comes by -1 + -1 alone", withBase(3, 1, 0, 1, -1), -1, 0, 1);
        // 20 is not chosen: by 40 there are 4, and 4 once more; by 29 and 1 there is 3.
        dueCarries("a digit that is not chosen", withBase(10, 1, 0, 1, 2, 3, 4, 5, 6, 7, 8, 9, 20), 0, 1, 2, 3, 4);
        // By 11 to 20 there is 1, and with it by 20 also 2; -1 comes at last, from 0 by the sum 0.
        dueCarries("10 in place of 0", withBase(10, 1, 10, 1, 2, 3, 4, 5, 6, 7, 8, 9), -1, 0, 1, 2);
        // By two digits there are -6, -2, 2; then by one there are 4, from 2 by 2 alone, and -4.
        dueCarries("2, -2, -6 in 3 / 2", withBase(3, 2, 2, -2, -6), -6, -4, -2, 0, 2, 4);
        // -1 comes by one digit, from 0 by the 3 that is not chosen, and by nothing else.
        dueCarries("4, 2, 6, 3 in 3 / 2", withBase(3, 2, 4, 2, 6, 3), -2, -1, 0, 1, 2, 3, 4, 5, 6);
        // By 10 to 18 there is -1, and with it by 0 there is 1, since -1 is 9 - 10.
        dueCarries("base -10", withBase(-10, 1, 0, 1, 2, 3, 4, 5, 6, 7, 8, 9), -1, 0, 1);
    }

    public static void main(String[] args) {
        manyCalls();
        residues();
        complete();
        firstOfTheList();
        steps();
        repetitions();
        lengths();
        numberedCycles();
        aMillionRows();
        orderOfRows();
        shortestRows();
        possibleCarries();
        Check.finish("SentencesTest");
    }
}

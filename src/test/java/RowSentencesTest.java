/** Sentences about rows that tell a boundary case: values, comparisons, sums, products and conversions. */
public final class RowSentencesTest {
    private static final int[][] EXTREME_ROWS = {
        {20, 20, 20, 20, 20, 20, 20, 20, 20, 20, 20, 20}, {-20, -20, -20, -20, -20, -20, -20, -20, -20, -20, -20, -20},
        {20, -20, 20, -20, 20, -20, 20, -20, 20, -20, 20, -20}, {-20, 20, -20, 20, -20, 20, -20, 20, -20, 20, -20, 20},
        {19, 20, 20, 20, 20, 20, 20, 20, 20, 20, 20, 20}, {0, 0, 0, 0, 0, 0, 0, 0, 0, 0, 0, 1}, {1}, {-1}, {}, {20, -20}};

    private static int commonDivisor(int a, int b) {
        return b == 0 ? a : commonDivisor(b, a % b);
    }

    private static boolean isBase(int p, int q) {
        return Math.abs(p) >= 2 && q < Math.abs(p) && commonDivisor(Math.abs(p), q) == 1;
    }

    private static void give(NumerationSystems x, Model model, int row, int... entries) {
        x.clear(row);
        model.clear(row);
        for (int entry : entries) {
            x.push(row, entry);
            model.push(row, entry);
        }
    }

    /** "a fraction in lowest terms with a denominator above 0", and "0 if the first one is less, ...", in every base. */
    private static void everyBase() {
        for (int p = -10; p <= 10; p++) {
            for (int q = 1; q <= 9; q++) {
                if (isBase(p, q)) {
                    extremes(p, q);
                }
            }
        }
    }

    private static void extremes(int p, int q) {
        for (int[] entries : EXTREME_ROWS) {
            NumerationSystems x = new NumerationSystems();
            Model model = new Model();
            x.setBase(0, p, q);
            model.setBase(0, p, q);
            x.setBase(1, -p, q);
            model.setBase(1, -p, q);
            give(x, model, 0, entries);
            String what = "base " + p + " / " + q + ", " + entries.length + " entries: ";
            for (int s = 0; s < 2; s++) {
                Check.due(what + "numerator", model.value(s, 0, false), x.value(s, 0, false));
                Check.due(what + "denominator", model.value(s, 0, true), x.value(s, 0, true));
                Check.holds(what + "the denominator is above 0", x.value(s, 0, true) > 0);
                Check.due(what + "convert", model.convert(s, 0, 2), x.convert(s, 0, 2));
            }
            for (int[] others : EXTREME_ROWS) {
                give(x, model, 1, others);
                Check.due(what + "compare in one system", model.compare(0, 0, 0, 1), x.compare(0, 0, 0, 1));
                Check.due(what + "compare in two systems", model.compare(0, 0, 1, 1), x.compare(0, 0, 1, 1));
                Check.due(what + "compare in two systems", model.compare(1, 0, 0, 1), x.compare(1, 0, 0, 1));
                Check.due(what + "add", model.add(0, 0, 1, 2), x.add(0, 0, 1, 2));
                Check.due(what + "add: value", model.value(0, 2, false), x.value(0, 2, false));
            }
            for (int factor = -100; factor <= 100; factor += 50) {
                Check.due(what + "multiply", model.multiply(0, 0, factor, 2), x.multiply(0, 0, factor, 2));
                Check.due(what + "multiply: value", model.value(0, 2, false), x.value(0, 2, false));
            }
        }
    }

    private static void dueFraction(NumerationSystems x, int system, int row, long numerator, long denominator) {
        Check.due("numerator of row " + row, numerator, x.value(system, row, false));
        Check.due("denominator of row " + row, denominator, x.value(system, row, true));
    }

    private static void lowestTerms() {
        NumerationSystems x = new NumerationSystems();
        x.setBase(0, -9, 8);
        Check.fill(x, 0, 8);
        dueFraction(x, 0, 0, 1, 1);
        Check.fill(x, 0, 4);
        dueFraction(x, 0, 0, 1, 2);
        Check.fill(x, 0, -12);
        dueFraction(x, 0, 0, -3, 2);
        Check.fill(x, 0, 0, 1);
        dueFraction(x, 0, 0, -9, 64);
        Check.fill(x, 0, 0, -16);
        dueFraction(x, 0, 0, 9, 4);
        Check.fill(x, 0, 9, 8);
        dueFraction(x, 0, 0, 0, 1);
        Check.fill(x, 0, 0, 0, 0, 0, 0, 0, 0, 0, 0, 0, 0, 0);
        dueFraction(x, 0, 0, 0, 1);
    }

    /** "the sums of the entries of two rows (0 where one has none)", "perhaps the same row". */
    private static void sums() {
        NumerationSystems x = new NumerationSystems();
        Check.fill(x, 0, 5, 0, 5);
        Check.fill(x, 1, 5);
        Check.due("505 + 5", 3, x.add(0, 0, 1, 2));
        Check.dueRow("505 + 5", x, 2, 0, 1, 5);
        Check.due("5 + 505", 3, x.add(0, 1, 0, 2));
        Check.dueRow("5 + 505", x, 2, 0, 1, 5);
        // The carry is 0 behind the entries 1 and 3: as long as there are sums, that is no end.
        Check.due("505 + 505", 4, x.add(0, 0, 0, 2));
        Check.dueRow("505 + 505", x, 2, 0, 1, 0, 1);
        Check.due("505 + 505 in its place", 4, x.add(0, 0, 0, 0));
        Check.dueRow("505 + 505 in its place", x, 0, 0, 1, 0, 1);
        Check.due("1010 + 5 in place of the first", 4, x.add(0, 0, 1, 0));
        Check.dueRow("1010 + 5 in place of the first", x, 0, 5, 1, 0, 1);
        Check.due("1015 + 5 in place of the other", 4, x.add(0, 0, 1, 1));
        Check.dueRow("1015 + 5 in place of the other", x, 1, 0, 2, 0, 1);
        Check.dueRow("1015 stays", x, 0, 5, 1, 0, 1);
    }

    /** "the carry begins as 0", also behind a computation that did not come to its end. */
    private static void carryAtFirst() {
        NumerationSystems x = new NumerationSystems();
        Check.fill(x, 0, 9, 9, 9, 9, 9, 9, 9, 9, 9, 9, 9, 9);
        Check.fill(x, 1, 1);
        Check.due("a carry is left", Check.FULL, x.add(0, 0, 1, 2));
        Check.due("1 + 0", 1, x.add(0, 1, 2, 2));
        Check.dueRow("1 + 0", x, 2, 1);
        Check.due("a carry is left", Check.FULL, x.multiply(0, 0, -100, 2));
        Check.due("1 * 4", 1, x.multiply(1, 1, 4, 2));
        Check.dueRow("1 * 4", x, 2, 4);
    }

    /** "FULL if more than 12 entries would be computed (before zeros are removed), also if this would never end". */
    private static void ends() {
        NumerationSystems x = new NumerationSystems();
        Check.fill(x, 0, 0, 0, 0, 0, 0, 0, 0, 0, 0, 0, 0, 0);
        Check.due("twelve zeros", 0, x.add(0, 0, 0, 0));
        Check.dueRow("twelve zeros", x, 0);
        Check.fill(x, 0, 0, 0, 0, 0, 0, 0, 0, 0, 0, 0, 9, 9);
        Check.due("twelve entries and no carry", 12, x.multiply(0, 0, 1, 1));
        Check.due("twelve entries and a carry", Check.FULL, x.multiply(0, 0, 2, 1));
        Check.fill(x, 0, -1);
        Check.due("9, 9, 9, ...", Check.FULL, x.add(0, 0, 2, 1));
        Check.due("9, 9, 9, ...", Check.FULL, x.multiply(0, 0, 1, 1));
        // With 10 in place of 0 each step from 0 gives 10: no computation has an end, nor that of empty rows.
        x = new NumerationSystems();
        x.removeDigit(0, 0);
        x.addDigit(0, 10);
        Check.fill(x, 0, 5);
        Check.fill(x, 1, 7);
        Check.due("5 with 10 in place of 0", Check.FULL, x.multiply(0, 0, 1, 1));
        Check.due("5 and none with 10 in place of 0", Check.FULL, x.add(0, 0, 2, 1));
        Check.due("no entries with 10 in place of 0", Check.FULL, x.add(0, 2, 2, 1));
        Check.due("no entries with 10 in place of 0", Check.FULL, x.multiply(0, 2, 3, 1));
        Check.dueRow("nothing is changed", x, 1, 7);
        Check.due("no entries in the other system", 0, x.add(1, 2, 2, 1));
        // With the digit 0 behind 10 in the list it is the same; in front of it all is well.
        x.addDigit(0, 0);
        Check.due("5 with 10 before 0", Check.FULL, x.multiply(0, 0, 1, 1));
        x.choose(0, 0);
        Check.due("5 with 0 before 10", 1, x.multiply(0, 0, 1, 1));
    }

    /** "NOT_POSSIBLE if the value is no integer from -100000 to 100000", each of them just inside and just outside. */
    private static void conversions() {
        int[][] rows = {{0, 0, 0, 0, 0, 1}, {0, 0, 0, 0, 0, -1}, {1, 0, 0, 0, 0, 1}, {-1, 0, 0, 0, 0, -1}};
        int[] lengths = {7, 6, Check.NOT_POSSIBLE, Check.NOT_POSSIBLE};
        for (int i = 0; i < rows.length; i++) {
            NumerationSystems x = new NumerationSystems();
            x.setBase(1, -10, 1);
            Check.fill(x, 0, rows[i]);
            long value = x.value(0, 0, false);
            Check.due("convert " + value, lengths[i], x.convert(0, 0, 1));
            Check.due("convert " + value + ": value", lengths[i] > 0 ? value : 0, x.value(1, 1, false));
            Check.due("convert " + value + " in its place", lengths[i], x.convert(0, 0, 0));
            Check.due("convert " + value + " in its place: value", value, x.value(lengths[i] > 0 ? 1 : 0, 0, false));
        }
        NumerationSystems x = new NumerationSystems();
        x.setBase(0, 3, 2);
        Check.fill(x, 0, 1);
        Check.due("convert 1 / 2", Check.NOT_POSSIBLE, x.convert(0, 0, 0));
        Check.fill(x, 0, -1);
        Check.due("convert -1 / 2", Check.NOT_POSSIBLE, x.convert(0, 0, 0));
        Check.fill(x, 0, 2);
        Check.due("convert 1 from 3 / 2", 1, x.convert(0, 0, 0));
        Check.dueRow("convert 1 from 3 / 2", x, 0, 1);
        Check.fill(x, 0, -2);
        Check.due("convert -1 from 3 / 2 to 10", Check.NOT_POSSIBLE, x.convert(0, 0, 0));
        Check.dueRow("a refused row stays", x, 0, -2);
    }

    /** The same edges in base 10 / 3, where 0, 0, 0, 0, 0, 9, 6, 3, 8, 3 is 100000 and the entry 0 counts thirds. */
    private static void conversionsOfThirds() {
        for (int thirds = -4; thirds <= 4; thirds++) {
            for (int sign = -1; sign <= 1; sign += 2) {
                NumerationSystems x = new NumerationSystems();
                x.setBase(0, 10, 3);
                x.setBase(1, -10, 1);
                Check.fill(x, 0, sign * thirds, 0, 0, 0, 0, sign * 9, sign * 6, sign * 3, sign * 8, sign * 3);
                boolean isInteger = thirds % 3 == 0;
                String what = sign + " * (100000 + " + thirds + " / 3)";
                Check.due(what + ": numerator", sign * (isInteger ? 100000 + thirds / 3 : 300000 + thirds), x.value(0, 0, false));
                Check.due(what + ": denominator", isInteger ? 1 : 3, x.value(0, 0, true));
                if (isInteger && thirds <= 0) {
                    Check.due(what + ": convert", sign > 0 ? 7 : 6, x.convert(0, 0, 1));
                    Check.due(what + ": value behind convert", sign * (100000 + thirds / 3), x.value(1, 1, false));
                } else {
                    Check.due(what + ": convert", Check.NOT_POSSIBLE, x.convert(0, 0, 1));
                }
            }
        }
    }

    /** "NOT_POSSIBLE if the expansion is not finite; FULL if it has more than 12 digits", the first one for an endless one too. */
    private static void endlessExpansions() {
        int[][] powers = {{4, 2, 0, 1}, {8, 4, 0, 2}, {6, 9, 0, 4}, {2, 9, 1, 8}};
        int[] due = {11, 12, Check.FULL, Check.FULL};
        for (int i = 0; i < powers.length; i++) {
            NumerationSystems x = new NumerationSystems();
            x.setBase(1, 2, 1);
            int m = 1024 << i;
            Check.fill(x, 0, powers[i]);
            Check.due("convert " + m, due[i], x.convert(0, 0, 1));
            Check.due("load " + m, due[i], x.load(1, m, 2));
            Check.fill(x, 1, 7);
            Check.fill(x, 2, 7);
            Check.fill(x, 0, -powers[i][0], -powers[i][1], -powers[i][2], -powers[i][3]);
            dueNoExpansion(x, -m);
            // With 2 in place of 0, 0 leads to -1, and -1 to itself.
            Check.giveDigits(x, 1, 2, 1);
            dueNoExpansion(x, -m);
            Check.fill(x, 0, powers[i]);
            dueNoExpansion(x, m);
        }
    }

    private static void dueNoExpansion(NumerationSystems x, int m) {
        Check.due("length of " + m, Check.NONE, x.length(1, m, 1));
        Check.due("convert " + m, Check.NOT_POSSIBLE, x.convert(0, 0, 1));
        Check.dueRow("convert " + m, x, 1, 7);
        Check.due("load " + m, Check.NOT_POSSIBLE, x.load(1, m, 2));
        Check.dueRow("load " + m, x, 2, 7);
    }

    public static void main(String[] args) {
        everyBase();
        lowestTerms();
        sums();
        carryAtFirst();
        ends();
        conversions();
        conversionsOfThirds();
        endlessExpansions();
        Check.finish("RowSentencesTest");
    }
}

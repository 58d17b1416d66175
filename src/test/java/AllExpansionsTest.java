import java.util.ArrayList;
import java.util.List;

/** Promises 18 to 20: all expansions of a given length. */
public final class AllExpansionsTest {
    private static final int[] WRONG = {-1, 2, Integer.MIN_VALUE, Integer.MAX_VALUE};
    private static final int[] NO_M = {-100001, 100001, Integer.MIN_VALUE, Integer.MAX_VALUE};

    private static void dueExpansion(NumerationSystems x, int m, int k, int... want) {
        for (int i = 0; i < want.length; i++) {
            Check.due("expansionDigit(0, " + m + ", " + want.length + ", " + k + ", " + i + ")",
                    want[i], x.expansionDigit(0, m, want.length, k, i));
        }
    }

    private static void signedBinary() {
        NumerationSystems x = new NumerationSystems();
        x.setBase(0, 2, 1);
        x.addDigit(0, -1);
        Check.due("expansions(0, 1, 2)", 2, x.expansions(0, 1, 2));
        dueExpansion(x, 1, 0, 1, 0);
        dueExpansion(x, 1, 1, -1, 1);
        Check.due("expansions(0, 1, 3)", 3, x.expansions(0, 1, 3));
        dueExpansion(x, 1, 0, 1, 0, 0);
        dueExpansion(x, 1, 1, -1, 1, 0);
        dueExpansion(x, 1, 2, -1, -1, 1);
        Check.due("a fourth one", Check.NONE, x.expansionDigit(0, 1, 3, 3, 0));
        x.choose(0, -1);
        dueExpansion(x, 1, 0, -1, -1, 1);
        dueExpansion(x, 1, 1, -1, 1, 0);
        dueExpansion(x, 1, 2, 1, 0, 0);
        Check.due("expansions of 1 in all lengths", 12, x.expansions(0, 1, 12));
        Check.due("expansions of 4095", 1, x.expansions(0, 4095, 12));
        Check.due("expansions of 4096", 0, x.expansions(0, 4096, 12));
        Check.due("expansions of -4095", 1, x.expansions(0, -4095, 12));
        Check.due("shortest 7", 3, x.shortest(0, 7));
        Check.due("shortest -8", 4, x.shortest(0, -8));
        Check.due("shortest 4095", 12, x.shortest(0, 4095));
        Check.due("shortest 4096", Check.NONE, x.shortest(0, 4096));
    }

    private static void lengthNull() {
        NumerationSystems x = new NumerationSystems();
        Check.due("expansions(0, 0, 0)", 1, x.expansions(0, 0, 0));
        Check.due("expansions(0, 5, 0)", 0, x.expansions(0, 5, 0));
        Check.due("expansions(0, 0, 1)", 1, x.expansions(0, 0, 1));
        Check.due("expansions(0, 10, 1)", 0, x.expansions(0, 10, 1));
        Check.due("expansions(0, -1, 12)", 0, x.expansions(0, -1, 12));
        Check.due("shortest(0, 0)", 0, x.shortest(0, 0));
        Check.due("shortest(0, 9)", 1, x.shortest(0, 9));
        Check.due("shortest(0, 100000)", 6, x.shortest(0, 100000));
        Check.due("shortest(0, -1)", Check.NONE, x.shortest(0, -1));
        Check.giveDigits(x, 0);
        Check.due("no digits: expansions(0, 0, 0)", 1, x.expansions(0, 0, 0));
        Check.due("no digits: expansions(0, 0, 12)", 0, x.expansions(0, 0, 12));
        Check.due("no digits: shortest(0, 0)", 0, x.shortest(0, 0));
        Check.due("no digits: shortest(0, 1)", Check.NONE, x.shortest(0, 1));
        Check.due("no digits: expansionDigit", Check.NONE, x.expansionDigit(0, 0, 1, 0, 0));
        // An incomplete system: 5, 15, 25, ... have no expansions, 33 and 30 have.
        Check.giveDigits(x, 0, 3, 0);
        Check.due("incomplete: expansions(0, 33, 2)", 1, x.expansions(0, 33, 2));
        Check.due("incomplete: expansions(0, 35, 2)", 0, x.expansions(0, 35, 2));
        Check.due("incomplete: shortest(0, 30)", 2, x.shortest(0, 30));
        Check.due("incomplete: shortest(0, 5)", Check.NONE, x.shortest(0, 5));
        // Without the digit 0, longer rows do not go on with zeros.
        x.setBase(0, 2, 1);
        Check.giveDigits(x, 0, 1, 2);
        Check.due("shortest(0, 0) without 0", 0, x.shortest(0, 0));
        Check.due("expansions(0, 0, 3) without 0", 0, x.expansions(0, 0, 3));
        Check.due("expansions(0, 3, 2) without 0", 1, x.expansions(0, 3, 2));
        Check.due("expansions(0, 3, 3) without 0", 0, x.expansions(0, 3, 3));
    }

    private static void manyRows() {
        NumerationSystems x = new NumerationSystems();
        x.setBase(0, 2, 1);
        Check.giveDigits(x, 0, -20, -18, -16, -14, -12, -10, 10, 12, 14, 16, 18, 20);
        Check.due("more than a million", 1000000, x.expansions(0, 0, 12));
        Check.holds("row 999999", x.expansionDigit(0, 0, 12, 999999, 0) == -20);
        long sum = 0;
        for (int i = 11; i >= 0; i--) {
            sum = 2 * sum + x.expansionDigit(0, 0, 12, 999999, i);
        }
        Check.due("the value of row 999999", 0, sum);
    }

    private static NumerationSystems withBase(int p, int q, int... digits) {
        NumerationSystems x = new NumerationSystems();
        x.setBase(0, p, q);
        Check.giveDigits(x, 0, digits);
        return x;
    }

    /** All rows of a length that have the value m, in the document's order, found among all rows there are. */
    private static List<int[]> rowsWithValue(int p, int q, int[] digits, int length, int m) {
        List<int[]> found = new ArrayList<>();
        int rows = 1;
        for (int i = 0; i < length; i++) {
            rows *= digits.length;
        }
        for (int number = 0; number < rows; number++) {
            int[] row = new int[length];
            int rest = number;
            for (int i = length - 1; i >= 0; i--) {
                row[i] = digits[rest % digits.length];
                rest /= digits.length;
            }
            if (hasValue(p, q, row, m)) {
                found.add(row);
            }
        }
        return found;
    }

    private static boolean hasValue(long p, long q, int[] row, int m) {
        long sum = 0;
        long powerOfQ = 1;
        for (int i = row.length - 1; i >= 0; i--) {
            sum = row[i] * powerOfQ + p * sum;
            powerOfQ *= q;
        }
        return sum == m * powerOfQ;
    }

    private static void dueRows(NumerationSystems x, int m, int length, List<int[]> want) {
        Check.due("expansions(0, " + m + ", " + length + ")", want.size(), x.expansions(0, m, length));
        int asked = Math.min(want.size(), 40);
        for (int k = 0; k < asked; k++) {
            int number = k < 20 ? k : want.size() - asked + k;
            for (int i = 0; i < length; i++) {
                Check.due("expansionDigit(0, " + m + ", " + length + ", " + number + ", " + i + ")",
                        want.get(number)[i], x.expansionDigit(0, m, length, number, i));
            }
        }
        if (length > 0) {
            Check.due("one row more", Check.NONE, x.expansionDigit(0, m, length, want.size(), 0));
        }
    }

    private static void allRows() {
        int[][] bases = {{2, 1}, {-2, 1}, {3, 2}, {-3, 2}, {4, 3}, {5, 1}, {-10, 9}};
        int[][] lists = {{0, 1, -1, 2}, {3, 0, 1, -4}, {0, -1, 1, 2, 3}, {5, 0, 1, 2, -5}, {3, 2, 1, 0, -20},
            {0, 5, -5, 10}, {0, 10, 20, -20, -10}};
        int[] values = {0, 1, -1, 2, 3, -5, 7, 10, 20, -20, 33};
        for (int i = 0; i < bases.length; i++) {
            int p = bases[i][0];
            int q = bases[i][1];
            for (int length = 0; length <= 6; length++) {
                for (int m : values) {
                    dueRows(withBase(p, q, lists[i]), m, length, rowsWithValue(p, q, lists[i], length, m));
                }
            }
        }
    }

    /** The farthest digits in base 2 and -2, where what is left of a row can be farthest from another's. */
    private static void farthestDigits() {
        int[][] lists = {{-20, 20, -19, 19, 0, 1, -1, 2}, {20, -20}, {-20, 20, 19}, {20, 19, 18, -18, -20},
            {-20, -19}, {19, 20}, {-20, -18, -16, -14, -12, -10, 20, 18, 16, 14, 12, 10}};
        for (int[] list : lists) {
            for (int p = -2; p <= 2; p += 4) {
                Model model = new Model();
                model.setBase(0, p, 1);
                model.removeDigit(0, 0);
                model.removeDigit(0, 1);
                for (int digit : list) {
                    model.addDigit(0, digit);
                }
                for (int m = -20; m <= 20; m++) {
                    NumerationSystems x = withBase(p, 1, list);
                    compareWithModel(x, model, 1024 + m);
                    compareWithModel(x, model, -1024 + m);
                    compareWithModel(x, model, 512 * m);
                    compareWithModel(x, model, 5000 * m);
                }
            }
        }
    }

    private static void compareWithModel(NumerationSystems x, Model model, int m) {
        Check.due("expansions of " + m, model.expansions(0, m, 12), x.expansions(0, m, 12));
        Check.due("the last digit of " + m, model.expansionDigit(0, m, 12, 0, 11), x.expansionDigit(0, m, 12, 0, 11));
        Check.due("shortest of " + m, model.shortest(0, m), x.shortest(0, m));
    }

    private static void faults() {
        NumerationSystems x = new NumerationSystems();
        for (int m : NO_M) {
            Check.due("expansions: m " + m, Check.BAD_VALUE, x.expansions(0, m, 3));
            Check.due("expansionDigit: m " + m, Check.BAD_VALUE, x.expansionDigit(0, m, 3, 0, 0));
            Check.due("expansionDigit: m " + m + ", no entry", Check.UNKNOWN, x.expansionDigit(0, m, 3, 0, 3));
            Check.due("shortest: m " + m, Check.BAD_VALUE, x.shortest(0, m));
        }
        for (int length : new int[] {-1, 13, Integer.MIN_VALUE, Integer.MAX_VALUE}) {
            Check.due("expansions: length " + length, Check.BAD_VALUE, x.expansions(0, 5, length));
            Check.due("expansionDigit: length " + length, Check.BAD_VALUE, x.expansionDigit(0, 5, length, 0, 0));
            Check.due("expansionDigit: length " + length, Check.BAD_VALUE, x.expansionDigit(0, 5, length, 0, -1));
            Check.due("expansionDigit: length " + length, Check.BAD_VALUE, x.expansionDigit(0, 5, length, 0, 20));
        }
        for (int k : new int[] {-1, 1000000, Integer.MIN_VALUE, Integer.MAX_VALUE}) {
            Check.due("expansionDigit: k " + k, Check.BAD_VALUE, x.expansionDigit(0, 5, 3, k, 0));
            Check.due("expansionDigit: k " + k + ", no entry", Check.UNKNOWN, x.expansionDigit(0, 5, 3, k, -1));
        }
        for (int entry : new int[] {-1, 3, 12, Integer.MIN_VALUE, Integer.MAX_VALUE}) {
            Check.due("expansionDigit: entry " + entry, Check.UNKNOWN, x.expansionDigit(0, 5, 3, 0, entry));
        }
        Check.due("expansionDigit: no entries at all", Check.UNKNOWN, x.expansionDigit(0, 0, 0, 0, 0));
        Check.due("expansionDigit: row 1", Check.NONE, x.expansionDigit(0, 5, 3, 1, 0));
        Check.due("expansionDigit: row 999999", Check.NONE, x.expansionDigit(0, 5, 3, 999999, 2));
        Check.due("expansionDigit: row 0", 5, x.expansionDigit(0, 5, 3, 0, 0));
        for (int wrong : WRONG) {
            Check.due("expansions: no system", Check.UNKNOWN, x.expansions(wrong, 5, 3));
            Check.due("expansions: no system, bad values", Check.UNKNOWN, x.expansions(wrong, 100001, 13));
            Check.due("expansionDigit: no system", Check.UNKNOWN, x.expansionDigit(wrong, 5, 3, 0, 0));
            Check.due("expansionDigit: no system, bad values", Check.UNKNOWN, x.expansionDigit(wrong, 100001, 13, -1, -1));
            Check.due("shortest: no system", Check.UNKNOWN, x.shortest(wrong, 5));
            Check.due("shortest: no system, bad m", Check.UNKNOWN, x.shortest(wrong, 100001));
        }
        x.setBase(1, 10, 9);
        Check.due("the edge of m", 0, x.expansions(1, 100000, 12));
        Check.due("the edge of m", 0, x.expansions(1, -100000, 12));
        Check.due("the edge of m", Check.NONE, x.shortest(1, 100000));
        Check.due("the edge of m", Check.NONE, x.shortest(1, -100000));
    }

    public static void main(String[] args) {
        signedBinary();
        lengthNull();
        manyRows();
        allRows();
        farthestDigits();
        faults();
        Check.finish("AllExpansionsTest");
    }
}

/** Promises 21 to 30: rows, their values, and what is computed with them. */
public final class RowsTest {
    private static final int[] WRONG = {-1, 3, 4, Integer.MIN_VALUE, Integer.MAX_VALUE};
    private static final int[] NO_SYSTEM = {-1, 2, Integer.MIN_VALUE, Integer.MAX_VALUE};

    private static void entries() {
        NumerationSystems x = new NumerationSystems();
        for (int row = 0; row < 3; row++) {
            for (int i = 0; i < 12; i++) {
                Check.due("push(" + row + ", " + i + ")", i + 1, x.push(row, i % 2 == 0 ? 20 - row : i - 20));
            }
            Check.due("push of a thirteenth", Check.FULL, x.push(row, 5));
            Check.due("push of a thirteenth, out of range", Check.BAD_VALUE, x.push(row, 21));
        }
        for (int row = 0; row < 3; row++) {
            Check.due("size(" + row + ")", 12, x.size(row));
            Check.dueRow("pushed", x, row, 20 - row, -19, 20 - row, -17, 20 - row, -15, 20 - row, -13, 20 - row, -11, 20 - row, -9);
        }
        Check.due("clear(1)", 12, x.clear(1));
        Check.due("clear(1) again", 0, x.clear(1));
        Check.due("size(1)", 0, x.size(1));
        Check.due("size(0)", 12, x.size(0));
        Check.due("entry of an empty row", Check.UNKNOWN, x.entry(1, 0));
        Check.due("push(1, -20)", 1, x.push(1, -20));
        Check.due("push(1, 20)", 2, x.push(1, 20));
        for (int entry : new int[] {-21, 21, Integer.MIN_VALUE, Integer.MAX_VALUE}) {
            Check.due("push(1, " + entry + ")", Check.BAD_VALUE, x.push(1, entry));
            Check.due("push(3, " + entry + ")", Check.UNKNOWN, x.push(3, entry));
        }
        Check.dueRow("behind errors", x, 1, -20, 20);
        for (int place : new int[] {2, -1, 12, Integer.MIN_VALUE, Integer.MAX_VALUE}) {
            Check.due("entry(1, " + place + ")", Check.UNKNOWN, x.entry(1, place));
        }
        for (int wrong : WRONG) {
            Check.due("push: no row", Check.UNKNOWN, x.push(wrong, 1));
            Check.due("clear: no row", Check.UNKNOWN, x.clear(wrong));
            Check.due("size: no row", Check.UNKNOWN, x.size(wrong));
            Check.due("entry: no row", Check.UNKNOWN, x.entry(wrong, 0));
        }
    }

    private static void dueValue(NumerationSystems x, int system, int row, long numerator, long denominator) {
        Check.due("value(" + system + ", " + row + ", false)", numerator, x.value(system, row, false));
        Check.due("value(" + system + ", " + row + ", true)", denominator, x.value(system, row, true));
    }

    private static void values() {
        NumerationSystems x = new NumerationSystems();
        x.setBase(0, 3, 2);
        dueValue(x, 0, 0, 0, 1);
        Check.fill(x, 0, 1, 1);
        dueValue(x, 0, 0, 5, 4);
        dueValue(x, 1, 0, 11, 1);
        Check.fill(x, 0, 0, 0, 0);
        dueValue(x, 0, 0, 0, 1);
        // 1 / 2 * (2 + 0 + 2 * 9 / 4 + 27 / 8 + 2 * 81 / 16) = 10
        Check.fill(x, 0, 2, 0, 2, 1, 2);
        dueValue(x, 0, 0, 10, 1);
        Check.fill(x, 0, -1);
        dueValue(x, 0, 0, -1, 2);
        x.setBase(0, -3, 2);
        Check.fill(x, 0, 1, 1);
        dueValue(x, 0, 0, -1, 4);
        x.setBase(0, 10, 9);
        Check.fill(x, 0, 20, 20, 20, 20, 20, 20, 20, 20, 20, 20, 20, 20);
        // 20 * (10^12 - 9^12) / 9^12, and neither 3 nor 2 divides it away
        dueValue(x, 0, 0, 20L * (1000000000000L - 282429536481L), 282429536481L);
        Check.due("value with twelve entries in 10", 20L * 111111111111L, x.value(1, 0, false));
        for (int wrong : NO_SYSTEM) {
            dueValue(x, wrong, 0, Check.NO_VALUE, Check.NO_VALUE);
        }
        for (int wrong : WRONG) {
            dueValue(x, 0, wrong, Check.NO_VALUE, Check.NO_VALUE);
        }
        Check.giveDigits(x, 1);
        dueValue(x, 1, 0, 20L * 111111111111L, 1);
    }

    private static void compare() {
        NumerationSystems x = new NumerationSystems();
        x.setBase(0, 10, 9);
        x.setBase(1, -10, 9);
        Check.due("two empty rows", 1, x.compare(0, 0, 1, 1));
        Check.fill(x, 0, 20, 20, 20, 20, 20, 20, 20, 20, 20, 20, 20, 20);
        Check.fill(x, 1, 19, 20, 20, 20, 20, 20, 20, 20, 20, 20, 20, 20);
        Check.due("a little greater", 2, x.compare(0, 0, 0, 1));
        Check.due("a little less", 0, x.compare(0, 1, 0, 0));
        Check.due("equal", 1, x.compare(0, 0, 0, 0));
        Check.due("greater in -10 / 9", 2, x.compare(1, 0, 1, 1));
        Check.due("above below 0", 2, x.compare(0, 0, 1, 0));
        Check.due("below 0 and above", 0, x.compare(1, 0, 0, 0));
        Check.due("an empty row is 0", 0, x.compare(1, 0, 1, 2));
        Check.due("an empty row is 0", 2, x.compare(1, 2, 1, 0));
        // Both are -1 / 4: 1 / 2 * (1 - 3 / 2) and 1 / 4 * -1.
        x.setBase(0, -3, 2);
        x.setBase(1, 5, 4);
        Check.fill(x, 0, 1, 1);
        Check.fill(x, 1, -1);
        Check.due("equal in two systems", 1, x.compare(0, 0, 1, 1));
        Check.fill(x, 1, 0);
        Check.due("-1 / 4 against 0", 0, x.compare(0, 0, 1, 1));
        Check.fill(x, 0, 1);
        Check.fill(x, 1, 1);
        Check.due("1 / 2 against 1 / 4", 2, x.compare(0, 0, 1, 1));
        Check.due("1 / 4 against 1 / 2", 0, x.compare(1, 1, 0, 0));
        // The same whole parts, and one of the rests is 0.
        Check.fill(x, 1);
        Check.due("1 / 2 against 0", 2, x.compare(0, 0, 0, 1));
        Check.due("0 against 1 / 2", 0, x.compare(0, 1, 0, 0));
        Check.fill(x, 1, 3);
        Check.fill(x, 2, 2);
        Check.due("3 / 2 against 1", 2, x.compare(0, 1, 0, 2));
        Check.due("1 against 3 / 2", 0, x.compare(0, 2, 0, 1));
        Check.fill(x, 1, -1);
        Check.fill(x, 2, -2);
        Check.due("-1 / 2 against -1", 2, x.compare(0, 1, 0, 2));
        Check.due("-1 against -1 / 2", 0, x.compare(0, 2, 0, 1));
        for (int wrong : NO_SYSTEM) {
            Check.due("compare: no first system", Check.UNKNOWN, x.compare(wrong, 0, 0, 0));
            Check.due("compare: no second system", Check.UNKNOWN, x.compare(0, 0, wrong, 0));
        }
        for (int wrong : WRONG) {
            Check.due("compare: no first row", Check.UNKNOWN, x.compare(0, wrong, 0, 0));
            Check.due("compare: no second row", Check.UNKNOWN, x.compare(0, 0, 0, wrong));
        }
    }

    private static void load() {
        NumerationSystems x = new NumerationSystems();
        Check.due("load(0, 90210, 1)", 5, x.load(0, 90210, 1));
        Check.dueRow("load(0, 90210, 1)", x, 1, 0, 1, 2, 0, 9);
        Check.due("load(0, 0, 1)", 0, x.load(0, 0, 1));
        Check.dueRow("load(0, 0, 1)", x, 1);
        Check.due("load(0, 100000, 2)", 6, x.load(0, 100000, 2));
        x.setBase(0, 2, 1);
        Check.due("load(0, 4095, 0)", 12, x.load(0, 4095, 0));
        Check.dueRow("load(0, 4095, 0)", x, 0, 1, 1, 1, 1, 1, 1, 1, 1, 1, 1, 1, 1);
        Check.due("load(0, 4096, 2)", Check.FULL, x.load(0, 4096, 2));
        Check.due("load(0, -1, 2)", Check.NOT_POSSIBLE, x.load(0, -1, 2));
        Check.dueRow("errors change nothing", x, 2, 0, 0, 0, 0, 0, 1);
        x.addDigit(0, -1);
        x.choose(0, -1);
        Check.due("load(0, -1, 2)", 1, x.load(0, -1, 2));
        Check.dueRow("load(0, -1, 2)", x, 2, -1);
        x.addDigit(0, 2);
        x.choose(0, 2);
        Check.due("load of 0 with a 2 for it", Check.NOT_POSSIBLE, x.load(0, 0, 0));
        x.removeDigit(0, 1);
        x.removeDigit(0, -1);
        Check.due("load: incomplete", Check.INCOMPLETE, x.load(0, 4096, 2));
        for (int m : new int[] {-100001, 100001, Integer.MIN_VALUE, Integer.MAX_VALUE}) {
            Check.due("load: m " + m, Check.BAD_VALUE, x.load(0, m, 2));
            Check.due("load: m " + m, Check.BAD_VALUE, x.load(1, m, 2));
            Check.due("load: no row, m " + m, Check.UNKNOWN, x.load(0, m, 3));
        }
        for (int wrong : NO_SYSTEM) {
            Check.due("load: no system", Check.UNKNOWN, x.load(wrong, 5, 0));
        }
        for (int wrong : WRONG) {
            Check.due("load: no row", Check.UNKNOWN, x.load(1, 5, wrong));
        }
        Check.dueRow("errors change nothing", x, 2, -1);
        x.setBase(1, -10, 1);
        Check.due("load(1, -100000, 0)", 6, x.load(1, -100000, 0));
        Check.dueRow("load(1, -100000, 0)", x, 0, 0, 0, 0, 0, 0, 1);
    }

    private static void add() {
        NumerationSystems x = new NumerationSystems();
        Check.fill(x, 0, 9, 9);
        Check.fill(x, 1, 1);
        Check.due("99 + 1", 3, x.add(0, 0, 1, 2));
        Check.dueRow("99 + 1", x, 2, 0, 0, 1);
        Check.dueRow("99 stays", x, 0, 9, 9);
        Check.due("1 + 99", 3, x.add(0, 1, 0, 2));
        Check.due("99 + 99", 3, x.add(0, 0, 0, 0));
        Check.dueRow("99 + 99", x, 0, 8, 9, 1);
        Check.fill(x, 0, 5, 0, 0);
        Check.fill(x, 1);
        Check.due("zeros at the end", 1, x.add(0, 0, 1, 1));
        Check.dueRow("zeros at the end", x, 1, 5);
        Check.fill(x, 0, 0, 0, 0);
        Check.due("only zeros", 0, x.add(0, 0, 0, 0));
        Check.due("two empty rows", 0, x.add(0, 0, 0, 2));
        Check.fill(x, 0, 15, 20, -20);
        Check.fill(x, 1, 20, 20, 20, 20);
        // 35, 40, 0, 20: 5 and 3 over, 43 gives 3 and 4, 4, 20 gives 0 and 2
        Check.due("entries that are no digits", 5, x.add(0, 0, 1, 0));
        Check.dueRow("entries that are no digits", x, 0, 5, 3, 4, 0, 2);
        Check.fill(x, 0, 9, 9, 9, 9, 9, 9, 9, 9, 9, 9, 9, 9);
        Check.fill(x, 1, 1);
        Check.fill(x, 2, 7);
        Check.due("a thirteenth entry", Check.FULL, x.add(0, 0, 1, 2));
        Check.dueRow("full changes nothing", x, 2, 7);
        Check.fill(x, 1);
        Check.due("just twelve entries", 12, x.add(0, 0, 1, 2));
        Check.dueRow("just twelve entries", x, 2, 9, 9, 9, 9, 9, 9, 9, 9, 9, 9, 9, 9);
        Check.fill(x, 0, -1);
        Check.due("below 0, without end", Check.FULL, x.add(0, 0, 1, 0));
        Check.dueRow("below 0, without end", x, 0, -1);
        x.setBase(1, -10, 1);
        Check.due("-1 in -10", 2, x.add(1, 0, 1, 0));
        Check.dueRow("-1 in -10", x, 0, 9, 1);
        // In -3 / 2: 4 is 1 and -1 over, -2 is 1 and 1 over, 2 is 2, since q * c goes into the sum.
        x.setBase(1, -3, 2);
        Check.fill(x, 0, 2);
        Check.due("2 and 2 in -3 / 2", 3, x.add(1, 0, 0, 1));
        Check.dueRow("2 and 2 in -3 / 2", x, 1, 1, 1, 2);
    }

    private static void addFaults() {
        NumerationSystems x = new NumerationSystems();
        x.addDigit(0, 10);
        x.choose(0, 10);
        Check.due("a step from 0 that gives 10", Check.FULL, x.add(0, 0, 0, 0));
        Check.fill(x, 0, 5);
        Check.due("a step from 0 that gives 10", Check.FULL, x.add(0, 0, 0, 1));
        Check.due("a step from 0 that gives 10", Check.FULL, x.multiply(0, 0, 1, 1));
        x.removeDigit(1, 7);
        Check.due("add: incomplete", Check.INCOMPLETE, x.add(1, 0, 0, 0));
        Check.due("multiply: incomplete", Check.INCOMPLETE, x.multiply(1, 0, 1, 0));
        for (int wrong : NO_SYSTEM) {
            Check.due("add: no system", Check.UNKNOWN, x.add(wrong, 0, 0, 0));
            Check.due("multiply: no system", Check.UNKNOWN, x.multiply(wrong, 0, 1, 0));
            Check.due("multiply: no system, no factor", Check.UNKNOWN, x.multiply(wrong, 0, 101, 0));
        }
        for (int wrong : WRONG) {
            Check.due("add: no row", Check.UNKNOWN, x.add(1, wrong, 0, 0));
            Check.due("add: no other row", Check.UNKNOWN, x.add(1, 0, wrong, 0));
            Check.due("add: no target", Check.UNKNOWN, x.add(1, 0, 0, wrong));
            Check.due("multiply: no row", Check.UNKNOWN, x.multiply(1, wrong, 101, 0));
            Check.due("multiply: no target", Check.UNKNOWN, x.multiply(1, 0, 101, wrong));
        }
        for (int factor : new int[] {-101, 101, Integer.MIN_VALUE, Integer.MAX_VALUE}) {
            Check.due("multiply: factor " + factor, Check.BAD_VALUE, x.multiply(0, 0, factor, 0));
            Check.due("multiply: incomplete, factor " + factor, Check.BAD_VALUE, x.multiply(1, 0, factor, 0));
        }
        Check.dueRow("errors change nothing", x, 0, 5);
    }

    private static void multiply() {
        NumerationSystems x = new NumerationSystems();
        Check.fill(x, 0, 7);
        Check.due("7 * 13", 2, x.multiply(0, 0, 13, 1));
        Check.dueRow("7 * 13", x, 1, 1, 9);
        Check.dueRow("7 stays", x, 0, 7);
        Check.due("91 * 100", 4, x.multiply(0, 1, 100, 1));
        Check.dueRow("91 * 100", x, 1, 0, 0, 1, 9);
        Check.due("7 * 0", 0, x.multiply(0, 0, 0, 1));
        Check.dueRow("7 * 0", x, 1);
        Check.due("an empty row", 0, x.multiply(0, 1, 100, 2));
        Check.due("7 * -1 in 10", Check.FULL, x.multiply(0, 0, -1, 0));
        Check.dueRow("7 * -1 in 10", x, 0, 7);
        x.setBase(1, -10, 1);
        Check.due("7 * -1 in -10", 2, x.multiply(1, 0, -1, 0));
        Check.dueRow("7 * -1 in -10", x, 0, 3, 1);
        Check.due("-7 * -100 in -10", 3, x.multiply(1, 0, -100, 0));
        Check.dueRow("-7 * -100 in -10", x, 0, 0, 0, 7);
        Check.fill(x, 0, 20, -20);
        // In 10: 2000 is 0 and 200 over, -1800 is 0 and -180, then 0 and -18, 2 and -2, 8 and -1, 9 and -1, ...
        // In -10: 2000 is 0 and -200 over, -2200 is 0 and 220, then 0 and -22, 8 and 3, 3 and 0.
        Check.due("the greatest sums", Check.FULL, x.multiply(0, 0, 100, 0));
        Check.due("the greatest sums", 5, x.multiply(1, 0, 100, 2));
        Check.due("their value", 22000, x.value(1, 2, false));
        Check.dueRow("the greatest sums", x, 2, 0, 0, 0, 8, 3);
        Check.fill(x, 0, 1, 1, 1, 1, 1, 1, 1, 1, 1, 1, 1, 1);
        Check.due("twelve entries", 12, x.multiply(0, 0, 9, 1));
        Check.due("a thirteenth entry", Check.FULL, x.multiply(0, 0, 10, 1));
        Check.due("zeros among twelve entries", 0, x.multiply(0, 0, 0, 1));
    }

    private static void convert() {
        NumerationSystems x = new NumerationSystems();
        x.setBase(1, 2, 1);
        Check.fill(x, 0, 3, 2);
        Check.due("23 to base 2", 5, x.convert(0, 0, 1));
        Check.dueRow("23 to base 2", x, 1, 1, 1, 1, 0, 1);
        Check.due("and back", 2, x.convert(1, 1, 1));
        Check.dueRow("and back", x, 1, 3, 2);
        Check.due("an empty row", 0, x.convert(0, 2, 1));
        Check.dueRow("an empty row", x, 1);
        Check.fill(x, 0, 5, 9, 0, 4);
        Check.due("4095 to base 2", 12, x.convert(0, 0, 0));
        Check.fill(x, 0, 6, 9, 0, 4);
        Check.due("4096 to base 2", Check.FULL, x.convert(0, 0, 0));
        Check.fill(x, 0, -1);
        Check.due("-1 to base 2", Check.NOT_POSSIBLE, x.convert(0, 0, 0));
        Check.dueRow("errors change nothing", x, 0, -1);
        x.setBase(1, -10, 1);
        Check.fill(x, 0, 0, 0, 0, 0, 0, 1);
        Check.due("100000 to base -10", 7, x.convert(0, 0, 2));
        Check.fill(x, 0, 1, 0, 0, 0, 0, 1);
        Check.due("100001 to base -10", Check.NOT_POSSIBLE, x.convert(0, 0, 2));
        Check.fill(x, 0, 0, 0, 0, 0, 0, -1);
        Check.due("-100000 to base -10", 6, x.convert(0, 0, 2));
        Check.fill(x, 0, -1, 0, 0, 0, 0, -1);
        Check.due("-100001 to base -10", Check.NOT_POSSIBLE, x.convert(0, 0, 2));
        Check.dueRow("errors change nothing", x, 2, 0, 0, 0, 0, 0, 1);
        // 2^32 * 100000 and more would fit into an int if they were cut off
        Check.fill(x, 0, 16, 9, 2, 7, 6, 9, 4, 9, 2, 4);
        Check.due("4294967306 to base -10", Check.NOT_POSSIBLE, x.convert(0, 0, 2));
        x.setBase(0, 3, 2);
        Check.fill(x, 0, 1);
        Check.due("1 / 2 to base -10", Check.NOT_POSSIBLE, x.convert(0, 0, 2));
        Check.fill(x, 0, 4);
        Check.due("4 / 2 to base -10", 1, x.convert(0, 0, 2));
        Check.dueRow("4 / 2 to base -10", x, 2, 2);
        Check.giveDigits(x, 0);
        Check.due("from a system without digits", 1, x.convert(0, 0, 1));
        Check.dueRow("from a system without digits", x, 1, 2);
        Check.due("to a system without digits", Check.INCOMPLETE, x.convert(1, 0, 2));
        x.setBase(0, 3, 2);
        Check.fill(x, 0, 1);
        x.removeDigit(1, 3);
        Check.due("incomplete and no integer", Check.INCOMPLETE, x.convert(0, 0, 2));
        for (int wrong : NO_SYSTEM) {
            Check.due("convert: no system", Check.UNKNOWN, x.convert(wrong, 0, 0));
        }
        for (int wrong : WRONG) {
            Check.due("convert: no row", Check.UNKNOWN, x.convert(0, wrong, 0));
            Check.due("convert: no target", Check.UNKNOWN, x.convert(0, 0, wrong));
        }
    }

    public static void main(String[] args) {
        entries();
        values();
        compare();
        load();
        add();
        addFaults();
        multiply();
        convert();
        Check.finish("RowsTest");
    }
}

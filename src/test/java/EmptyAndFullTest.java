/** Lists without digits and with 12, rows without entries and with 12, in every method that reads or changes them. */
public final class EmptyAndFullTest {
    private static final int[] TWELVE_NINES = {9, 9, 9, 9, 9, 9, 9, 9, 9, 9, 9, 9};

    private static void noDigitsInTheList() {
        NumerationSystems x = State.NO_DIGITS.make();
        for (int s = 0; s < 2; s++) {
            Check.due("no digits: p", 10, x.system(s, 0));
            Check.due("no digits: q", 1, x.system(s, 1));
            Check.due("no digits: number", 0, x.system(s, 2));
            Check.due("no digits: complete", 0, x.system(s, 3));
            Check.due("no digits: greatest absolute value", 0, x.system(s, 4));
            Check.due("no digits: digitAt", Check.UNKNOWN, x.digitAt(s, 0));
            for (int residue = 0; residue < 10; residue++) {
                Check.due("no digits: chosen", Check.NONE, x.chosen(s, residue));
            }
            for (int digit = -20; digit <= 20; digit++) {
                Check.due("no digits: removeDigit", Check.NOT_POSSIBLE, x.removeDigit(s, digit));
                Check.due("no digits: choose", Check.NOT_POSSIBLE, x.choose(s, digit));
            }
        }
    }

    private static void noDigitsToStepBy() {
        Call[] calls = {new Call("digit", 0, 0, 1, 0), new Call("numerator", 0, 0, 1, 0), new Call("preperiod", 0, 0, 1),
            new Call("period", 0, 0, 1), new Call("length", 0, 0, 1), new Call("cycleCount", 0), new Call("cycle", 0, 0, 0),
            new Call("leadsTo", 0, 0), new Call("reachesAll", 0), new Call("load", 0, 0, 0), new Call("add", 0, 0, 1, 2),
            new Call("multiply", 0, 0, 0, 1), new Call("convert", 0, 0, 1), new Call("nextCarry", 0, 0, 0),
            new Call("carryCount", 0), new Call("carry", 0, 0)};
        NumerationSystems x = State.NO_DIGITS.make();
        for (Call call : calls) {
            Check.due("no digits: " + call, Check.INCOMPLETE, call.on(x));
            Check.due("no digits: " + call.with(0, 1), Check.INCOMPLETE, call.with(0, 1).on(x));
        }
        x.clear(0);
        x.clear(1);
        for (Call call : calls) {
            Check.due("no digits and no entries: " + call, Check.INCOMPLETE, call.on(x));
        }
    }

    private static void noDigitsButRows() {
        NumerationSystems x = State.NO_DIGITS.make();
        Check.due("no digits: value", 321, x.value(0, 0, false));
        Check.due("no digits: value", 1, x.value(0, 0, true));
        Check.due("no digits: compare", 2, x.compare(0, 0, 1, 1));
        Check.due("no digits: expansions of 0 without digits", 1, x.expansions(0, 0, 0));
        Check.due("no digits: expansions of 1 without digits", 0, x.expansions(0, 1, 0));
        for (int length = 1; length <= 12; length++) {
            Check.due("no digits: expansions of 0", 0, x.expansions(0, 0, length));
            Check.due("no digits: expansionDigit of 0", Check.NONE, x.expansionDigit(0, 0, length, 0, 0));
        }
        Check.due("no digits: expansionDigit without entries", Check.UNKNOWN, x.expansionDigit(0, 0, 0, 0, 0));
        Check.due("no digits: shortest of 0", 0, x.shortest(0, 0));
        Check.due("no digits: shortest of 1", Check.NONE, x.shortest(0, 1));
        Check.due("no digits: shortest of -100000", Check.NONE, x.shortest(0, -100000));
        x.setBase(1, 10, 1);
        Check.due("no digits: convert from there", 3, x.convert(0, 0, 2));
        Check.dueRow("no digits: convert from there", x, 2, 1, 2, 3);
    }

    private static void oneDigit() {
        NumerationSystems x = State.NO_DIGITS.make();
        Check.due("the first digit", 1, x.addDigit(0, -13));
        Check.dueList("the first digit", x, 0, -13);
        Check.due("the first digit: chosen", -13, x.chosen(0, 7));
        Check.due("the first digit: greatest absolute value", 13, x.system(0, 4));
        Check.due("the first digit: choose", 0, x.choose(0, -13));
        Check.due("the first digit: expansions", 1, x.expansions(0, -143, 2));
        Check.due("the first digit: shortest", 2, x.shortest(0, -143));
        Check.due("the first digit once more", Check.NOT_POSSIBLE, x.addDigit(0, -13));
        Check.due("the last digit", 0, x.removeDigit(0, -13));
        Check.dueList("the last digit", x, 0);
        Check.due("the last digit: chosen", Check.NONE, x.chosen(0, 7));
        Check.due("setBase behind it", 2, x.setBase(0, 2, 1));
        Check.dueList("setBase behind it", x, 0, 0, 1);
    }

    private static void twelveDigits() {
        NumerationSystems x = State.PLAIN.make();
        for (int s = 0; s < 2; s++) {
            Check.due("the eleventh digit", 11, x.addDigit(s, 20));
            Check.due("the twelfth digit", 12, x.addDigit(s, -20));
            Check.due("the thirteenth digit", Check.FULL, x.addDigit(s, -1));
            Check.dueList("twelve digits", x, s, 0, 1, 2, 3, 4, 5, 6, 7, 8, 9, 20, -20);
            Check.due("twelve digits: complete", 1, x.system(s, 3));
            Check.due("twelve digits: greatest absolute value", 20, x.system(s, 4));
            Check.due("twelve digits: chosen", 0, x.chosen(s, 0));
        }
        Check.due("twelve digits: choose", 11, x.choose(0, -20));
        Check.dueList("twelve digits: choose", x, 0, -20, 0, 1, 2, 3, 4, 5, 6, 7, 8, 9, 20);
        Check.due("twelve digits: chosen", -20, x.chosen(0, 0));
        Check.due("twelve digits: removeDigit", 11, x.removeDigit(0, -20));
        Check.due("twelve digits: one in its place", 12, x.addDigit(0, -1));
        Check.dueList("twelve digits: one in its place", x, 0, 0, 1, 2, 3, 4, 5, 6, 7, 8, 9, 20, -1);
        Check.due("twelve digits: removeDigit of the last", 11, x.removeDigit(0, -1));
        Check.dueList("twelve digits: removeDigit of the last", x, 0, 0, 1, 2, 3, 4, 5, 6, 7, 8, 9, 20);
        Check.dueList("twelve digits: the other system", x, 1, 0, 1, 2, 3, 4, 5, 6, 7, 8, 9, 20, -20);
        Check.due("twelve digits: setBase", 3, x.setBase(1, -3, 1));
        Check.dueList("twelve digits: setBase", x, 1, 0, 1, 2);
    }

    /** With the digits 0 to 9, 20 and -20 in base 10. */
    private static void answersByTwelveDigits() {
        NumerationSystems x = State.FULL_LISTS.make();
        Check.due("twelve digits: length", 3, x.length(0, 321, 1));
        Check.due("twelve digits: cycleCount", 2, x.cycleCount(0));
        Check.due("twelve digits: expansions", 3, x.expansions(0, 20, 2));
        int[][] rows = {{0, 2}, {20, 0}, {-20, 4}};
        for (int k = 0; k < rows.length; k++) {
            Check.due("twelve digits: row " + k, rows[k][0], x.expansionDigit(0, 20, 2, k, 0));
            Check.due("twelve digits: row " + k, rows[k][1], x.expansionDigit(0, 20, 2, k, 1));
        }
        Check.due("twelve digits: row 3", Check.NONE, x.expansionDigit(0, 20, 2, 3, 0));
        Check.due("twelve digits: shortest of -20", 1, x.shortest(0, -20));
        Check.due("twelve digits: shortest of 220", 2, x.shortest(0, 220));
        Check.due("twelve digits: shortest of 300", 3, x.shortest(0, 300));
        // -40 gives -4, and -4 with it -44, which gives -5; 40 gives 4, and 4 with it 44.
        Check.due("twelve digits: carryCount", 10, x.carryCount(0));
        Check.due("twelve digits: the least carry", -5, x.carry(0, 0));
        Check.due("twelve digits: the greatest carry", 4, x.carry(0, 9));
        Check.due("twelve digits: load", 3, x.load(0, 321, 0));
    }

    private static void noEntries() {
        NumerationSystems x = new NumerationSystems();
        x.setBase(1, -3, 2);
        for (int row = 0; row < 3; row++) {
            Check.due("no entries: size", 0, x.size(row));
            Check.due("no entries: clear", 0, x.clear(row));
            Check.due("no entries: entry", Check.UNKNOWN, x.entry(row, 0));
            for (int s = 0; s < 2; s++) {
                Check.due("no entries: value", 0, x.value(s, row, false));
                Check.due("no entries: value", 1, x.value(s, row, true));
                Check.due("no entries: compare", 1, x.compare(s, row, 1 - s, (row + 1) % 3));
                Check.due("no entries: add", 0, x.add(s, row, (row + 1) % 3, (row + 2) % 3));
                Check.due("no entries: multiply", 0, x.multiply(s, row, 100, row));
                Check.due("no entries: convert", 0, x.convert(s, row, row));
            }
        }
        Check.fill(x, 1, 0, 0);
        Check.due("no entries against 0, 0", 1, x.compare(0, 0, 1, 1));
        Check.fill(x, 1, 1);
        Check.due("no entries against 1", 0, x.compare(0, 0, 0, 1));
        Check.fill(x, 1, -1);
        Check.due("no entries against -1", 2, x.compare(0, 0, 0, 1));
        Check.due("the first entry", 1, x.push(0, -20));
        Check.due("clear of one", 1, x.clear(0));
        Check.due("and it is gone", Check.UNKNOWN, x.entry(0, 0));
    }

    /** A target gets shorter, down to no entries at all. */
    private static void emptiedTargets() {
        Call[] calls = {new Call("add", 0, 1, 1, 0), new Call("multiply", 0, 1, 7, 0), new Call("multiply", 0, 0, 0, 0),
            new Call("convert", 0, 1, 0), new Call("load", 0, 0, 0)};
        for (Call call : calls) {
            NumerationSystems x = State.FULL_ROWS.make();
            x.clear(1);
            Check.due(call + " leaves nothing", 0, call.on(x));
            Check.dueRow(call + " leaves nothing", x, 0);
            Check.due(call + " leaves no entry", Check.UNKNOWN, x.entry(0, 0));
            Check.due(call + " leaves 0", 0, x.value(0, 0, false));
            Check.due(call + ", then push", 1, x.push(0, 5));
            Check.dueRow(call + ", then push", x, 0, 5);
            Check.dueRow(call + " leaves row 2", x, 2, TWELVE_NINES);
        }
    }

    private static void twelveEntries() {
        NumerationSystems x = new NumerationSystems();
        for (int row = 0; row < 3; row++) {
            for (int i = 1; i <= 12; i++) {
                Check.due("entry " + i + " of twelve", i, x.push(row, 9));
            }
            Check.due("the thirteenth entry", Check.FULL, x.push(row, 9));
            Check.due("twelve entries: size", 12, x.size(row));
            Check.due("twelve entries: entry 11", 9, x.entry(row, 11));
            Check.due("twelve entries: entry 12", Check.UNKNOWN, x.entry(row, 12));
        }
        Check.due("twelve entries: value", 999999999999L, x.value(0, 0, false));
        Check.due("twelve entries: compare", 1, x.compare(0, 0, 1, 2));
        Check.due("twelve entries: convert", Check.NOT_POSSIBLE, x.convert(0, 0, 1));
        Check.due("twelve entries: multiply by 1", 12, x.multiply(0, 0, 1, 1));
        Check.dueRow("twelve entries: multiply by 1", x, 1, TWELVE_NINES);
        Check.due("twelve entries: multiply by 2", Check.FULL, x.multiply(0, 0, 2, 1));
        Check.due("twelve entries: add to themselves", Check.FULL, x.add(0, 0, 0, 0));
        Check.due("twelve entries: clear", 12, x.clear(1));
        Check.due("twelve entries: add none", 12, x.add(0, 0, 1, 0));
        Check.dueRow("twelve entries: add none", x, 0, TWELVE_NINES);
        Check.fill(x, 1, -9, -9, -9, -9, -9, -9, -9, -9, -9, -9, -9, -9);
        Check.due("twelve entries: add their opposites", 0, x.add(0, 0, 1, 2));
        Check.dueRow("twelve entries: add their opposites", x, 2);
        Check.due("twelve entries: clear", 12, x.clear(0));
        Check.due("twelve entries: push behind clear", 1, x.push(0, 3));
        Check.dueRow("twelve entries: push behind clear", x, 0, 3);
        Check.due("twelve entries: none of the old ones", Check.UNKNOWN, x.entry(0, 1));
    }

    /** Rows that are full or all but full of what a call computes. */
    private static void filledTargets() {
        NumerationSystems x = new NumerationSystems();
        x.setBase(1, 2, 1);
        Check.due("load of twelve digits", 12, x.load(1, 2048, 0));
        Check.dueRow("load of twelve digits", x, 0, 0, 0, 0, 0, 0, 0, 0, 0, 0, 0, 0, 1);
        Check.due("load of thirteen digits", Check.FULL, x.load(1, 4096, 0));
        Check.due("load of eleven digits", 11, x.load(1, 2047, 0));
        Check.dueRow("load of eleven digits", x, 0, 1, 1, 1, 1, 1, 1, 1, 1, 1, 1, 1);
        Check.fill(x, 0, 5, 9, 0, 4);
        Check.due("convert to twelve digits", 12, x.convert(0, 0, 1));
        Check.dueRow("convert to twelve digits", x, 1, 1, 1, 1, 1, 1, 1, 1, 1, 1, 1, 1, 1);
        Check.fill(x, 0, 6, 9, 0, 4);
        Check.due("convert to thirteen digits", Check.FULL, x.convert(0, 0, 1));
        Check.due("convert of twelve digits", 4, x.convert(1, 1, 1));
        Check.dueRow("convert of twelve digits", x, 1, 5, 9, 0, 4);
        Check.fill(x, 0, 5, 0, 0, 0, 0, 0, 0, 0, 0, 0, 0, 0);
        Check.due("convert of twelve entries", 3, x.convert(0, 0, 2));
        Check.dueRow("convert of twelve entries", x, 2, 1, 0, 1);
        // 5 + 5 is 0 and 1 over.
        Check.due("add drops ten zeros", 2, x.add(0, 0, 0, 2));
        Check.dueRow("add drops ten zeros", x, 2, 0, 1);
        Check.due("multiply drops eleven zeros", 1, x.multiply(0, 0, 1, 0));
        Check.dueRow("multiply drops eleven zeros", x, 0, 5);
        Check.fill(x, 0, 0, 0, 0, 0, 0, 0, 0, 0, 0, 0, 0, 9);
        Check.fill(x, 1, 0, 0, 0, 0, 0, 0, 0, 0, 0, 0, 0, 1);
        Check.due("add with a carry behind the twelfth entry", Check.FULL, x.add(0, 0, 1, 2));
        Check.fill(x, 0, 0, 0, 0, 0, 0, 0, 0, 0, 0, 0, 9);
        Check.fill(x, 1, 0, 0, 0, 0, 0, 0, 0, 0, 0, 0, 1);
        Check.due("add with a carry to the twelfth entry", 12, x.add(0, 0, 1, 2));
        Check.dueRow("add with a carry to the twelfth entry", x, 2, 0, 0, 0, 0, 0, 0, 0, 0, 0, 0, 0, 1);
        Check.due("multiply with a carry to the twelfth entry", 12, x.multiply(0, 0, 3, 0));
        Check.dueRow("multiply with a carry to the twelfth entry", x, 0, 0, 0, 0, 0, 0, 0, 0, 0, 0, 0, 7, 2);
        Check.due("multiply with a carry behind the twelfth entry", Check.FULL, x.multiply(0, 0, 5, 0));
    }

    public static void main(String[] args) {
        noDigitsInTheList();
        noDigitsToStepBy();
        noDigitsButRows();
        oneDigit();
        twelveDigits();
        answersByTwelveDigits();
        noEntries();
        emptiedTargets();
        twelveEntries();
        filledTargets();
        Check.finish("EmptyAndFullTest");
    }
}

/**
 * The ranges of all arguments: the last values inside and the first ones outside, on both sides, and
 * the farthest ints there are.
 */
public final class RangesTest {
    /** One argument of a call that goes through with the others as they are. */
    private static final class Range {
        private final State state;
        private final Call call;
        private final int argument;
        private int least = Integer.MIN_VALUE;
        private int greatest = Integer.MAX_VALUE;

        private Range(State state, Call call, int argument) {
            this.state = state;
            this.call = call;
            this.argument = argument;
        }

        private void due(int value, long due) {
            Call asked = call.with(argument, value);
            Check.due(asked + " in the state " + state, due, asked.on(state.make()));
        }

        private Range from(int value, long due) {
            least = value;
            due(value, due);
            return this;
        }

        private Range to(int value, long due) {
            greatest = value;
            due(value, due);
            return this;
        }

        private void outside(long dueBelow, long dueAbove) {
            due(least - 1, dueBelow);
            due(Integer.MIN_VALUE, dueBelow);
            due(greatest + 1, dueAbove);
            due(Integer.MAX_VALUE, dueAbove);
        }

        private void outside(long due) {
            outside(due, due);
        }
    }

    private static Range range(State state, int argument, String name, int... arguments) {
        return new Range(state, new Call(name, arguments), argument);
    }

    /** "There are the systems 0 and 1": both are alike at first and answer the same. */
    private static void systems() {
        dueForSystems(3, "setBase", 0, 3, 2);
        dueForSystems(11, "addDigit", 0, 11);
        dueForSystems(9, "removeDigit", 0, 4);
        dueForSystems(4, "choose", 0, 4);
        dueForSystems(9, "digitAt", 0, 9);
        dueForSystems(9, "chosen", 0, 9);
        dueForSystems(10, "system", 0, 0);
        dueForSystems(3, "digit", 0, 1, 7, 0);
        dueForSystems(-2, "numerator", 0, 1, 7, 1);
        dueForSystems(1, "preperiod", 0, 1, 7);
        dueForSystems(6, "period", 0, 1, 7);
        dueForSystems(3, "length", 0, 100, 1);
        dueForSystems(2, "cycleCount", 0);
        dueForSystems(-1, "cycle", 0, 0, 0);
        dueForSystems(1, "leadsTo", 0, 5);
        dueForSystems(0, "reachesAll", 0);
        dueForSystems(1, "expansions", 0, 5, 3);
        dueForSystems(5, "expansionDigit", 0, 5, 3, 0, 0);
        dueForSystems(3, "shortest", 0, 100);
        dueForSystems(3, "load", 0, 100, 1);
        dueForSystems(3, "add", 0, 0, 1, 2);
        dueForSystems(4, "multiply", 0, 0, 10, 2);
        dueForSystems(3, "convert", 0, 0, 2);
        dueForSystems(1, "nextCarry", 0, 3, 15);
        dueForSystems(2, "carryCount", 0);
        dueForSystems(0, "carry", 0, 0);
        range(State.PLAIN, 0, "value", 0, 0, 0).from(0, 321).to(1, 321).outside(Check.NO_VALUE);
        range(State.PLAIN, 0, "value", 0, 0, 1).from(0, 1).to(1, 1).outside(Check.NO_VALUE);
        range(State.PLAIN, 0, "compare", 0, 0, 1, 1).from(0, 2).to(1, 2).outside(Check.UNKNOWN);
        range(State.PLAIN, 2, "compare", 0, 0, 1, 1).from(0, 2).to(1, 2).outside(Check.UNKNOWN);
    }

    private static void dueForSystems(long due, String name, int... arguments) {
        range(State.PLAIN, 0, name, arguments).from(0, due).to(1, due).outside(Check.UNKNOWN);
    }

    /** "There are the rows 0 to 2": 321, 54 and 7. */
    private static void rows() {
        range(State.PLAIN, 0, "push", 0, 1).from(0, 4).to(2, 2).outside(Check.UNKNOWN);
        range(State.PLAIN, 0, "clear", 0).from(0, 3).to(2, 1).outside(Check.UNKNOWN);
        range(State.PLAIN, 0, "size", 0).from(0, 3).to(2, 1).outside(Check.UNKNOWN);
        range(State.PLAIN, 0, "entry", 0, 0).from(0, 1).to(2, 7).outside(Check.UNKNOWN);
        range(State.PLAIN, 1, "value", 0, 0, 0).from(0, 321).to(2, 7).outside(Check.NO_VALUE);
        range(State.PLAIN, 1, "value", 0, 0, 1).from(0, 1).to(2, 1).outside(Check.NO_VALUE);
        range(State.PLAIN, 1, "compare", 0, 0, 1, 1).from(0, 2).to(2, 0).outside(Check.UNKNOWN);
        range(State.PLAIN, 3, "compare", 0, 1, 1, 0).from(0, 0).to(2, 2).outside(Check.UNKNOWN);
        range(State.PLAIN, 2, "load", 0, 4321, 0).from(0, 4).to(2, 4).outside(Check.UNKNOWN);
        range(State.PLAIN, 1, "add", 0, 0, 1, 2).from(0, 3).to(2, 2).outside(Check.UNKNOWN);
        range(State.PLAIN, 2, "add", 0, 1, 0, 2).from(0, 3).to(2, 2).outside(Check.UNKNOWN);
        range(State.PLAIN, 3, "add", 0, 0, 1, 0).from(0, 3).to(2, 3).outside(Check.UNKNOWN);
        range(State.PLAIN, 1, "multiply", 0, 0, 10, 0).from(0, 4).to(2, 2).outside(Check.UNKNOWN);
        range(State.PLAIN, 3, "multiply", 0, 0, 10, 0).from(0, 4).to(2, 4).outside(Check.UNKNOWN);
        range(State.PLAIN, 1, "convert", 0, 0, 0).from(0, 3).to(2, 1).outside(Check.UNKNOWN);
        range(State.PLAIN, 2, "convert", 0, 0, 0).from(0, 3).to(2, 3).outside(Check.UNKNOWN);
        for (int target = 0; target < 3; target++) {
            targets(target);
        }
    }

    /** What is computed goes into the target and into no other row. */
    private static void targets(int target) {
        Call[] calls = {new Call("load", 0, 375, target), new Call("add", 0, 0, 1, target),
            new Call("multiply", 0, 1, 5, target), new Call("convert", 0, 0, target)};
        long[] values = {375, 375, 270, 321};
        for (int i = 0; i < calls.length; i++) {
            NumerationSystems x = State.PLAIN.make();
            calls[i].on(x);
            long[] due = {321, 54, 7};
            due[target] = values[i];
            for (int row = 0; row < 3; row++) {
                Check.due("row " + row + " behind " + calls[i], due[row], x.value(0, row, false));
            }
        }
    }

    private static void bases() {
        int bad = Check.BAD_VALUE;
        range(State.PLAIN, 1, "setBase", 0, 0, 1).from(-10, 10).to(-2, 2).outside(bad);
        range(State.PLAIN, 1, "setBase", 0, 0, 1).from(2, 2).to(10, 10).outside(bad);
        range(State.PLAIN, 1, "setBase", 1, 0, 1).from(0, bad).to(0, bad).outside(bad);
        range(State.PLAIN, 2, "setBase", 0, 10, 0).from(1, 10).to(9, 10).outside(bad);
        range(State.PLAIN, 2, "setBase", 1, -10, 0).from(1, 10).to(9, 10).outside(bad);
        for (int p = 2; p <= 10; p++) {
            // A number and the one below it have no common divisor.
            range(State.PLAIN, 2, "setBase", 0, p, 0).from(1, p).to(p - 1, p).outside(bad);
            range(State.PLAIN, 2, "setBase", 1, -p, 0).from(1, p).to(p - 1, p).outside(bad);
        }
    }

    private static void lists() {
        range(State.PLAIN, 1, "addDigit", 0, 0).from(-20, 11).to(20, 11).outside(Check.BAD_VALUE);
        range(State.NO_DIGITS, 1, "addDigit", 0, 0).from(-20, 1).to(20, 1).outside(Check.BAD_VALUE);
        // Any integer may be asked for.
        range(State.FULL_LISTS, 1, "removeDigit", 0, 0).from(0, 11).to(9, 11).outside(Check.NOT_POSSIBLE);
        range(State.FULL_LISTS, 1, "removeDigit", 0, 0).from(-20, 11).to(-20, 11).outside(Check.NOT_POSSIBLE);
        range(State.FULL_LISTS, 1, "choose", 0, 0).from(0, 0).to(9, 9).outside(Check.NOT_POSSIBLE);
        range(State.FULL_LISTS, 1, "choose", 0, 0).from(20, 10).to(20, 10).outside(Check.NOT_POSSIBLE);
        range(State.PLAIN, 1, "digitAt", 0, 0).from(0, 0).to(9, 9).outside(Check.UNKNOWN);
        range(State.FULL_LISTS, 1, "digitAt", 0, 0).from(0, 0).to(11, -20).outside(Check.UNKNOWN);
        range(State.BINARY, 1, "digitAt", 0, 0).from(0, 0).to(1, 1).outside(Check.UNKNOWN);
        range(State.NO_DIGITS, 1, "digitAt", 0, 0).from(0, Check.UNKNOWN).to(11, Check.UNKNOWN).outside(Check.UNKNOWN);
        range(State.PLAIN, 1, "chosen", 0, 0).from(0, 0).to(9, 9).outside(Check.BAD_VALUE);
        range(State.HALVES, 1, "chosen", 0, 0).from(0, 0).to(2, 2).outside(Check.BAD_VALUE);
        range(State.BINARY, 1, "chosen", 0, 0).from(0, 0).to(1, 1).outside(Check.BAD_VALUE);
        range(State.NO_DIGITS, 1, "chosen", 0, 0).from(0, Check.NONE).to(9, Check.NONE).outside(Check.BAD_VALUE);
        range(State.FULL_LISTS, 1, "system", 0, 0).from(0, 10).to(4, 20).outside(Check.BAD_VALUE);
    }

    private static void expansions() {
        int bad = Check.BAD_VALUE;
        int none = Check.NONE;
        // 100000 has the digits 0, 0, 0, 0, 0, 1, and -100000 goes 0, 0, 0, 0, 0, 9, 9, 9, ...
        range(State.PLAIN, 1, "digit", 0, 0, 1, 5).from(-100000, 9).to(100000, 1).outside(bad);
        range(State.PLAIN, 1, "numerator", 0, 0, 1, 5).from(-100000, -1).to(100000, 1).outside(bad);
        range(State.PLAIN, 1, "preperiod", 0, 0, 1).from(-100000, 5).to(100000, 6).outside(bad);
        range(State.PLAIN, 1, "period", 0, 0, 1).from(-100000, 1).to(100000, 1).outside(bad);
        range(State.PLAIN, 1, "length", 0, 0, 1).from(-100000, none).to(100000, 6).outside(bad);
        range(State.PLAIN, 1, "leadsTo", 0, 0).from(-100000, 0).to(100000, 1).outside(bad);
        // 60 has no common divisor with 7: 1 = 2 * 60 - 7 * 17, so the digit of 1 / 60 is 2 and then there is -17.
        range(State.SEVENTHS, 2, "digit", 0, 1, 0, 0).from(1, 1).to(60, 2).outside(bad);
        range(State.SEVENTHS, 2, "numerator", 0, 1, 0, 1).from(1, 0).to(60, -17).outside(bad);
        range(State.SEVENTHS, 2, "preperiod", 0, 60, 0).from(1, 3).to(60, 1).outside(bad);
        range(State.SEVENTHS, 2, "period", 0, -60, 0).from(1, 1).to(60, 1).outside(bad);
        range(State.SEVENTHS, 2, "length", 0, 60, 0).from(1, 3).to(60, 1).outside(bad);
        range(State.PLAIN, 3, "digit", 0, 1, 7, 0).from(0, 3).to(1000000000, 5).outside(bad);
        range(State.PLAIN, 3, "numerator", 0, 1, 7, 0).from(0, 1).to(1000000000, -5).outside(bad);
        range(State.PLAIN, 3, "digit", 0, 0, 1, 0).from(0, 0).to(1000000000, 0).outside(bad);
    }

    private static void cycles() {
        range(State.PLAIN, 1, "cycle", 0, 0, 0).from(0, -1).to(1, 0).outside(Check.BAD_VALUE, Check.NONE);
        range(State.PLAIN, 1, "cycle", 0, 0, 1).from(0, 1).to(1, 1).outside(Check.BAD_VALUE, Check.NONE);
        range(State.PLAIN, 2, "cycle", 0, 0, 0).from(0, -1).to(2, -1).outside(Check.BAD_VALUE);
        range(State.PLAIN, 2, "cycle", 0, 1, 0).from(0, 0).to(2, 0).outside(Check.BAD_VALUE);
    }

    private static void allExpansions() {
        int bad = Check.BAD_VALUE;
        range(State.PLAIN, 1, "expansions", 0, 0, 12).from(-100000, 0).to(100000, 1).outside(bad);
        range(State.NEGATIVE_BASE, 1, "expansions", 0, 0, 12).from(-100000, 1).to(100000, 1).outside(bad);
        range(State.PLAIN, 2, "expansions", 0, 0, 0).from(0, 1).to(12, 1).outside(bad);
        range(State.PLAIN, 2, "expansions", 0, 5, 0).from(0, 0).to(12, 1).outside(bad);
        range(State.NEGATIVE_BASE, 1, "expansionDigit", 0, 0, 12, 0, 5).from(-100000, 1).to(100000, 9).outside(bad);
        range(State.PLAIN, 2, "expansionDigit", 0, 5, 0, 0, 0).from(1, 5).to(12, 5);
        range(State.PLAIN, 2, "expansionDigit", 0, 5, 0, 0, 0).from(0, Check.UNKNOWN).to(12, 5).outside(bad);
        range(State.MANY_ROWS, 3, "expansionDigit", 0, 0, 12, 0, 0).from(0, -20).to(999999, -20).outside(bad);
        range(State.PLAIN, 3, "expansionDigit", 0, 5, 3, 0, 0).from(0, 5).to(999999, Check.NONE).outside(bad);
        range(State.PLAIN, 4, "expansionDigit", 0, 321, 3, 0, 0).from(0, 1).to(2, 3).outside(Check.UNKNOWN);
        range(State.PLAIN, 4, "expansionDigit", 0, 321, 12, 0, 0).from(0, 1).to(11, 0).outside(Check.UNKNOWN);
        range(State.PLAIN, 4, "expansionDigit", 0, 7, 1, 0, 0).from(0, 7).to(0, 7).outside(Check.UNKNOWN);
        range(State.NEGATIVE_BASE, 1, "shortest", 0, 0).from(-100000, 6).to(100000, 7).outside(bad);
        range(State.PLAIN, 1, "shortest", 0, 0).from(-100000, Check.NONE).to(100000, 6).outside(bad);
    }

    private static void entries() {
        range(State.PLAIN, 1, "push", 0, 0).from(-20, 4).to(20, 4).outside(Check.BAD_VALUE);
        range(State.PLAIN, 1, "entry", 0, 0).from(0, 1).to(2, 3).outside(Check.UNKNOWN);
        range(State.PLAIN, 1, "entry", 2, 0).from(0, 7).to(0, 7).outside(Check.UNKNOWN);
        range(State.FULL_ROWS, 1, "entry", 1, 0).from(0, 9).to(11, 9).outside(Check.UNKNOWN);
    }

    private static void computedRows() {
        int bad = Check.BAD_VALUE;
        // 100 is 0, 0, 1 in base -10, and -100 is 0, 0, 9, 1.
        range(State.NEGATIVE_BASE, 2, "multiply", 0, 0, 0, 1).from(-100, 4).to(100, 3).outside(bad);
        range(State.NEGATIVE_BASE, 1, "load", 0, 0, 0).from(-100000, 6).to(100000, 7).outside(bad);
        range(State.PLAIN, 1, "load", 0, 0, 0).from(-100000, Check.NOT_POSSIBLE).to(100000, 6).outside(bad);
    }

    private static void carries() {
        int bad = Check.BAD_VALUE;
        range(State.PLAIN, 1, "nextCarry", 0, 0, 0).from(-10000, -1000).to(10000, 1000).outside(bad);
        range(State.NEGATIVE_BASE, 1, "nextCarry", 0, 0, 0).from(-10000, 1000).to(10000, -1000).outside(bad);
        range(State.PLAIN, 2, "nextCarry", 0, 0, 0).from(-2000, -200).to(2000, 200).outside(bad);
        range(State.PLAIN, 2, "nextCarry", 0, 10000, 0).from(-2000, 800).to(2000, 1200).outside(bad);
        range(State.PLAIN, 2, "nextCarry", 0, -10000, 0).from(-2000, -1200).to(2000, -800).outside(bad);
        range(State.PLAIN, 1, "carry", 0, 0).from(0, 0).to(1, 1).outside(bad, Check.NONE);
    }

    public static void main(String[] args) {
        systems();
        rows();
        bases();
        lists();
        expansions();
        cycles();
        allExpansions();
        entries();
        computedRows();
        carries();
        Check.finish("RangesTest");
    }
}

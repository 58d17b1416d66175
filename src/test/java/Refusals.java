import java.util.ArrayList;
import java.util.List;

/**
 * Calls to which one or more errors apply, with these errors in the order of the method's 'Returns'
 * line; the first one is due. NONE is no error, but stands last in some lines, behind all errors.
 */
final class Refusals {
    static final class Refusal {
        final State state;
        final Call call;
        final int[] faults;

        private Refusal(State state, Call call, int[] faults) {
            this.state = state;
            this.call = call;
            this.faults = faults;
        }

        long due() {
            return call.name.equals("value") ? Check.NO_VALUE : faults[0];
        }

        @Override
        public String toString() {
            return call + " in the state " + state;
        }
    }

    private static final int U = Check.UNKNOWN;
    private static final int B = Check.BAD_VALUE;
    private static final int I = Check.INCOMPLETE;
    private static final int N = Check.NOT_POSSIBLE;
    private static final int F = Check.FULL;
    private static final int NONE = Check.NONE;

    private final List<Refusal> all = new ArrayList<>();

    private Refusals() {
        systems();
        lists();
        expansions("digit", 0);
        expansions("numerator", 0);
        expansions("preperiod");
        expansions("period");
        expansions("length");
        infiniteLengths();
        cycles();
        allExpansions();
        expansionDigits();
        rows();
        values();
        loads();
        sums();
        products();
        conversions();
        carries();
    }

    static List<Refusal> all() {
        return new Refusals().all;
    }

    private void add(State state, Call call, int... faults) {
        all.add(new Refusal(state, call, faults));
    }

    private static Call call(String name, int... arguments) {
        return new Call(name, arguments);
    }

    /** Adds a call that goes through for the system 0, with systems that there are not. */
    private void noSystem(State state, Call call, int... otherFaults) {
        int[] faults = new int[otherFaults.length + 1];
        faults[0] = U;
        System.arraycopy(otherFaults, 0, faults, 1, otherFaults.length);
        add(state, call.with(0, 2), faults);
        add(state, call.with(0, -1), faults);
    }

    private void systems() {
        noSystem(State.PLAIN, call("setBase", 0, 3, 2));
        noSystem(State.PLAIN, call("setBase", 0, 1, 1), B);
        noSystem(State.PLAIN, call("setBase", 0, 4, 2), B);
        int[][] noBases = {{-11, 1}, {-1, 1}, {0, 1}, {1, 1}, {11, 1}, {10, 0}, {10, 10}, {3, 3}, {3, 4}, {4, 2}, {-9, 6}};
        for (int[] noBase : noBases) {
            add(State.PLAIN, call("setBase", 0, noBase[0], noBase[1]), B);
            add(State.HALVES, call("setBase", 1, noBase[0], noBase[1]), B);
        }
        noSystem(State.PLAIN, call("system", 0, 0));
        noSystem(State.PLAIN, call("system", 0, 5), B);
        add(State.PLAIN, call("system", 0, 5), B);
        add(State.PLAIN, call("system", 1, -1), B);
    }

    private void lists() {
        noSystem(State.PLAIN, call("addDigit", 0, 11));
        noSystem(State.PLAIN, call("addDigit", 0, 21), B);
        noSystem(State.PLAIN, call("addDigit", 0, 3), N);
        noSystem(State.FULL_LISTS, call("addDigit", 0, 11), F);
        noSystem(State.FULL_LISTS, call("addDigit", 0, 21), B, F);
        noSystem(State.FULL_LISTS, call("addDigit", 0, 3), N, F);
        for (int digit : new int[] {-21, 21}) {
            add(State.PLAIN, call("addDigit", 0, digit), B);
            add(State.NO_DIGITS, call("addDigit", 0, digit), B);
            add(State.FULL_LISTS, call("addDigit", 0, digit), B, F);
        }
        add(State.PLAIN, call("addDigit", 1, 0), N);
        add(State.PLAIN, call("addDigit", 1, 9), N);
        add(State.FULL_LISTS, call("addDigit", 1, 11), F);
        add(State.FULL_LISTS, call("addDigit", 1, 0), N, F);
        add(State.FULL_LISTS, call("addDigit", 1, -20), N, F);
        for (String name : new String[] {"removeDigit", "choose"}) {
            noSystem(State.PLAIN, call(name, 0, 3));
            noSystem(State.PLAIN, call(name, 0, 11), N);
            for (int digit : new int[] {-1, 10, 21, Integer.MIN_VALUE, Integer.MAX_VALUE}) {
                add(State.PLAIN, call(name, 0, digit), N);
                add(State.FULL_LISTS, call(name, 0, digit), N);
            }
            add(State.NO_DIGITS, call(name, 1, 0), N);
        }
        noSystem(State.PLAIN, call("digitAt", 0, 0));
        noSystem(State.PLAIN, call("digitAt", 0, 10));
        add(State.PLAIN, call("digitAt", 0, 10), U);
        add(State.PLAIN, call("digitAt", 0, -1), U);
        add(State.NO_DIGITS, call("digitAt", 0, 0), U);
        add(State.FULL_LISTS, call("digitAt", 0, 12), U);
        noSystem(State.PLAIN, call("chosen", 0, 5));
        noSystem(State.PLAIN, call("chosen", 0, 10), B);
        noSystem(State.INCOMPLETE, call("chosen", 0, 5), NONE);
        add(State.PLAIN, call("chosen", 0, 10), B);
        add(State.PLAIN, call("chosen", 0, -1), B);
        add(State.NO_DIGITS, call("chosen", 0, 10), B, NONE);
        add(State.NO_DIGITS, call("chosen", 0, -1), B, NONE);
        add(State.INCOMPLETE, call("chosen", 0, 5), NONE);
    }

    /** 1 / 7 has an expansion, 1 / 5 has none; what stands behind them is the place, if there is one. */
    private void expansions(String name, int... place) {
        Call sevenths = expansion(name, 1, 7, place);
        Call fifths = expansion(name, 1, 5, place);
        noSystem(State.PLAIN, sevenths);
        noSystem(State.PLAIN, sevenths.with(1, 100001), B);
        noSystem(State.PLAIN, sevenths.with(2, 61), B);
        noSystem(State.INCOMPLETE, sevenths, I);
        noSystem(State.PLAIN, fifths, N);
        add(State.INCOMPLETE, sevenths, I);
        add(State.NO_DIGITS, sevenths, I);
        add(State.INCOMPLETE, fifths, I, N);
        add(State.INCOMPLETE, sevenths.with(2, 60), I, N);
        add(State.PLAIN, fifths, N);
        add(State.PLAIN, fifths.with(2, 2), N);
        add(State.PLAIN, fifths.with(2, 60), N);
        for (int m : new int[] {-100001, 100001}) {
            badValue(sevenths.with(1, m), fifths.with(1, m));
        }
        // 3, 13 and 63 have no common divisor with 10, and 0, -2 and 62 have one.
        badValue(sevenths.with(2, 63), fifths.with(2, 62));
        badValue(sevenths.with(2, 61), fifths.with(2, 0));
        badValue(sevenths.with(2, -1), fifths.with(2, -2));
        if (place.length > 0) {
            noSystem(State.PLAIN, sevenths.with(3, -1), B);
            badValue(sevenths.with(3, -1), fifths.with(3, -1));
            badValue(sevenths.with(3, 1000000001), fifths.with(3, 1000000001));
        }
    }

    private static Call expansion(String name, int m, int n, int... place) {
        return place.length == 0 ? call(name, 0, m, n) : call(name, 0, m, n, place[0]);
    }

    private void badValue(Call call, Call withCommonDivisor) {
        add(State.PLAIN, call, B);
        add(State.INCOMPLETE, call, B, I);
        add(State.PLAIN, withCommonDivisor, B, N);
        add(State.INCOMPLETE, withCommonDivisor, B, I, N);
    }

    private void infiniteLengths() {
        add(State.PLAIN, call("length", 0, -1, 1), NONE);
        noSystem(State.PLAIN, call("length", 0, -1, 1), NONE);
        add(State.PLAIN, call("length", 0, -100001, 1), B, NONE);
        add(State.PLAIN, call("length", 0, -1, 61), B, NONE);
        add(State.INCOMPLETE, call("length", 0, -1, 1), I, NONE);
        add(State.PLAIN, call("length", 0, -1, 5), N, NONE);
    }

    private void cycles() {
        for (String name : new String[] {"cycleCount", "reachesAll", "carryCount"}) {
            noSystem(State.PLAIN, call(name, 0));
            noSystem(State.INCOMPLETE, call(name, 0), I);
            add(State.INCOMPLETE, call(name, 0), I);
            add(State.NO_DIGITS, call(name, 1), I);
        }
        noSystem(State.PLAIN, call("cycle", 0, 0, 0));
        noSystem(State.PLAIN, call("cycle", 0, -1, 0), B);
        noSystem(State.PLAIN, call("cycle", 0, 0, 3), B);
        noSystem(State.INCOMPLETE, call("cycle", 0, 0, 0), I);
        noSystem(State.PLAIN, call("cycle", 0, 2, 0), NONE);
        for (int[] bad : new int[][] {{-1, 0}, {0, -1}, {0, 3}}) {
            add(State.PLAIN, call("cycle", 0, bad[0], bad[1]), B);
            add(State.INCOMPLETE, call("cycle", 0, bad[0], bad[1]), B, I);
        }
        add(State.PLAIN, call("cycle", 0, 2, -1), B, NONE);
        add(State.PLAIN, call("cycle", 0, 2, 3), B, NONE);
        add(State.INCOMPLETE, call("cycle", 0, 0, 0), I);
        add(State.INCOMPLETE, call("cycle", 0, 1000, 0), I, NONE);
        add(State.PLAIN, call("cycle", 0, 2, 0), NONE);
        noSystem(State.PLAIN, call("leadsTo", 0, 5));
        noSystem(State.PLAIN, call("leadsTo", 0, 100001), B);
        noSystem(State.INCOMPLETE, call("leadsTo", 0, 5), I);
        add(State.INCOMPLETE, call("leadsTo", 0, 5), I);
        for (int m : new int[] {-100001, 100001}) {
            add(State.PLAIN, call("leadsTo", 0, m), B);
            add(State.INCOMPLETE, call("leadsTo", 0, m), B, I);
        }
    }

    private void allExpansions() {
        noSystem(State.PLAIN, call("expansions", 0, 5, 3));
        noSystem(State.PLAIN, call("expansions", 0, 100001, 3), B);
        noSystem(State.PLAIN, call("expansions", 0, 5, 13), B);
        for (int[] bad : new int[][] {{-100001, 3}, {100001, 3}, {5, -1}, {5, 13}, {100001, 13}}) {
            add(State.PLAIN, call("expansions", 0, bad[0], bad[1]), B);
            add(State.NO_DIGITS, call("expansions", 0, bad[0], bad[1]), B);
        }
        noSystem(State.PLAIN, call("shortest", 0, 5));
        noSystem(State.PLAIN, call("shortest", 0, 100001), B);
        noSystem(State.PLAIN, call("shortest", 0, -1), NONE);
        add(State.BINARY, call("shortest", 0, 100000), NONE);
        add(State.BINARY, call("shortest", 0, 100001), B, NONE);
        add(State.BINARY, call("shortest", 0, -100001), B, NONE);
        // 100001 = 1 + 10^5 has a row of six digits.
        add(State.PLAIN, call("shortest", 0, 100001), B);
    }

    /** In base 10, row 0 of three digits with the value 5 is 5, 0, 0, and there is no other. */
    private void expansionDigits() {
        Call five = call("expansionDigit", 0, 5, 3, 0, 0);
        noSystem(State.PLAIN, five);
        noSystem(State.PLAIN, five.with(1, 100001), B);
        noSystem(State.PLAIN, five.with(2, 13), B);
        noSystem(State.PLAIN, five.with(3, -1), B);
        noSystem(State.PLAIN, five.with(3, 1), NONE);
        for (int entry : new int[] {-1, 3, 12, 13}) {
            Call noEntry = five.with(4, entry);
            add(State.PLAIN, noEntry, U);
            add(State.PLAIN, noEntry.with(1, 100001), U, B);
            add(State.PLAIN, noEntry.with(1, -100001), U, B);
            add(State.PLAIN, noEntry.with(3, -1), U, B);
            add(State.PLAIN, noEntry.with(3, 1000000), U, B);
            add(State.PLAIN, noEntry.with(3, 1), U, NONE);
            // Only with a length in its range an entry can be UNKNOWN.
            add(State.PLAIN, noEntry.with(2, -1), B);
            add(State.PLAIN, noEntry.with(2, 13), B);
        }
        add(State.PLAIN, call("expansionDigit", 0, 0, 0, 0, 0), U);
        add(State.PLAIN, call("expansionDigit", 0, 5, 12, 0, 12), U);
        for (int m : new int[] {-100001, 100001}) {
            add(State.PLAIN, five.with(1, m), B);
            add(State.PLAIN, five.with(1, m).with(3, 1), B, NONE);
        }
        for (int length : new int[] {-1, 13}) {
            add(State.PLAIN, five.with(2, length), B);
            add(State.PLAIN, five.with(2, length).with(3, 1), B, NONE);
        }
        add(State.PLAIN, five.with(3, -1), B);
        add(State.PLAIN, five.with(3, 1000000), B, NONE);
        add(State.PLAIN, five.with(3, 1), NONE);
        add(State.PLAIN, five.with(3, 999999), NONE);
        add(State.NO_DIGITS, five, NONE);
    }

    private void noRow(State state, Call call, int argument, int... otherFaults) {
        int[] faults = new int[otherFaults.length + 1];
        faults[0] = U;
        System.arraycopy(otherFaults, 0, faults, 1, otherFaults.length);
        add(state, call.with(argument, 3), faults);
        add(state, call.with(argument, -1), faults);
    }

    private void rows() {
        noRow(State.PLAIN, call("push", 0, 1), 0);
        noRow(State.PLAIN, call("push", 0, 21), 0, B);
        noRow(State.FULL_ROWS, call("push", 0, 1), 0, F);
        for (int entry : new int[] {-21, 21}) {
            add(State.PLAIN, call("push", 1, entry), B);
            add(State.FULL_ROWS, call("push", 1, entry), B, F);
        }
        add(State.FULL_ROWS, call("push", 2, 1), F);
        noRow(State.PLAIN, call("clear", 0), 0);
        noRow(State.PLAIN, call("size", 0), 0);
        noRow(State.PLAIN, call("entry", 0, 0), 0);
        noRow(State.PLAIN, call("entry", 0, 3), 0);
        add(State.PLAIN, call("entry", 0, 3), U);
        add(State.PLAIN, call("entry", 0, -1), U);
        add(State.FULL_ROWS, call("entry", 0, 12), U);
    }

    private void values() {
        for (int denominator = 0; denominator < 2; denominator++) {
            Call value = call("value", 0, 0, denominator);
            noSystem(State.HALVES, value);
            noRow(State.HALVES, value, 1);
            noSystem(State.HALVES, value.with(1, 3));
        }
        Call compared = call("compare", 0, 0, 1, 1);
        noSystem(State.PLAIN, compared);
        noRow(State.PLAIN, compared, 1);
        add(State.PLAIN, compared.with(2, 2), U);
        add(State.PLAIN, compared.with(2, -1), U);
        noRow(State.PLAIN, compared, 3);
    }

    private void loads() {
        Call four = call("load", 0, 4, 0);
        Call tooLong = call("load", 0, 4096, 0);
        Call notFinite = call("load", 0, -1, 0);
        noSystem(State.PLAIN, four);
        noSystem(State.PLAIN, four.with(1, 100001), B);
        noSystem(State.INCOMPLETE, four, I);
        noSystem(State.PLAIN, notFinite, N);
        noSystem(State.BINARY, tooLong, F);
        noRow(State.PLAIN, four, 2);
        noRow(State.PLAIN, four.with(1, 100001), 2, B);
        noRow(State.INCOMPLETE, four, 2, I);
        noRow(State.PLAIN, notFinite, 2, N);
        noRow(State.BINARY, tooLong, 2, F);
        add(State.PLAIN, four.with(1, 100001), B);
        add(State.PLAIN, four.with(1, -100001), B, N);
        add(State.BINARY, four.with(1, 100001), B, F);
        add(State.INCOMPLETE, four.with(1, 100001), B, I);
        add(State.INCOMPLETE, four.with(1, -100001), B, I, N);
        add(State.INCOMPLETE, four, I);
        add(State.INCOMPLETE, notFinite, I, N);
        add(State.BINARY_INCOMPLETE, four.with(1, 8191), I, F);
        add(State.PLAIN, notFinite, N);
        add(State.PLAIN, four.with(1, -100000), N);
        add(State.BINARY, tooLong, F);
        add(State.BINARY, four.with(1, 100000), F);
        // Behind the digits of -8192, thirteen 0, come 1, 1, 1, ...: more than 12 digits, and no end.
        add(State.BINARY, four.with(1, -8192), N, F);
        add(State.BINARY, four.with(1, -100000), N, F);
        add(State.BINARY_INCOMPLETE, four.with(1, -8192), I, N, F);
        add(State.BINARY, four.with(1, -100001), B, N, F);
    }

    private void sums() {
        Call sum = call("add", 0, 0, 1, 2);
        noSystem(State.PLAIN, sum);
        noSystem(State.INCOMPLETE, sum, I);
        noSystem(State.FULL_ROWS, sum, F);
        for (int argument = 1; argument <= 3; argument++) {
            noRow(State.PLAIN, sum, argument);
            noRow(State.INCOMPLETE, sum, argument, I);
            noRow(State.FULL_ROWS, sum, argument, F);
        }
        add(State.INCOMPLETE, sum, I);
        add(State.FULL_ROWS_INCOMPLETE, sum, I, F);
        add(State.FULL_ROWS, sum, F);
        add(State.FULL_ROWS, call("add", 0, 0, 0, 0), F);
        add(State.NEGATIVE_ROWS, sum, F);
        add(State.NEGATIVE_ROWS, call("add", 1, 2, 2, 2), F);
    }

    private void products() {
        Call product = call("multiply", 0, 0, 2, 1);
        noSystem(State.PLAIN, product);
        noSystem(State.PLAIN, product.with(2, 101), B);
        noSystem(State.INCOMPLETE, product, I);
        noSystem(State.FULL_ROWS, product, F);
        for (int argument = 1; argument <= 3; argument += 2) {
            noRow(State.PLAIN, product, argument);
            noRow(State.PLAIN, product.with(2, 101), argument, B);
            noRow(State.INCOMPLETE, product, argument, I);
            noRow(State.FULL_ROWS, product, argument, F);
        }
        for (int factor : new int[] {-101, 101}) {
            add(State.PLAIN, product.with(2, factor), B);
            add(State.INCOMPLETE, product.with(2, factor), B, I);
            add(State.FULL_ROWS, product.with(2, factor), B, F);
        }
        add(State.INCOMPLETE, product, I);
        add(State.FULL_ROWS_INCOMPLETE, product, I, F);
        add(State.FULL_ROWS, product, F);
        add(State.FULL_ROWS, call("multiply", 0, 0, 2, 0), F);
        add(State.PLAIN, call("multiply", 1, 2, -1, 2), F);
    }

    private void conversions() {
        Call finite = call("convert", 0, 0, 1);
        Call half = call("convert", 0, 1, 0);
        Call negative = call("convert", 0, 2, 1);
        Call tooLong = call("convert", 0, 1, 0);
        Call tooGreat = call("convert", 0, 2, 0);
        noSystem(State.PLAIN, finite);
        noSystem(State.INCOMPLETE, finite, I);
        noSystem(State.HALVES, half, N);
        noSystem(State.TO_BINARY, tooLong, F);
        noRow(State.PLAIN, finite, 1);
        noRow(State.INCOMPLETE, finite, 1, I);
        noRow(State.PLAIN, finite, 2);
        noRow(State.INCOMPLETE, finite, 2, I);
        noRow(State.HALVES, half, 2, N);
        noRow(State.HALVES, negative, 2, N);
        noRow(State.TO_BINARY, tooLong, 2, F);
        add(State.INCOMPLETE, finite, I);
        add(State.HALVES_INCOMPLETE, half, I, N);
        add(State.HALVES_INCOMPLETE, negative, I, N);
        add(State.TO_BINARY_INCOMPLETE, tooLong, I, F);
        add(State.TO_BINARY_INCOMPLETE, tooGreat, I, N, F);
        add(State.HALVES, half, N);
        add(State.HALVES, negative, N);
        add(State.HALVES, half.with(2, 1), N);
        add(State.HALVES, negative.with(2, 2), N);
        add(State.TO_BINARY, tooLong.with(2, 1), F);
        add(State.TO_BINARY, tooGreat, N, F);
        add(State.TO_BINARY, tooLong, F);
    }

    private void carries() {
        Call next = call("nextCarry", 0, 3, 15);
        noSystem(State.PLAIN, next);
        noSystem(State.PLAIN, next.with(1, 10001), B);
        noSystem(State.PLAIN, next.with(2, 2001), B);
        noSystem(State.INCOMPLETE, next, I);
        add(State.INCOMPLETE, next, I);
        for (int[] bad : new int[][] {{-10001, 0}, {10001, 0}, {0, -2001}, {0, 2001}}) {
            Call badNext = next.with(1, bad[0]).with(2, bad[1]);
            add(State.PLAIN, badNext, B);
            add(State.INCOMPLETE, badNext, B, I);
        }
        noSystem(State.PLAIN, call("carry", 0, 0));
        noSystem(State.PLAIN, call("carry", 0, -1), B);
        noSystem(State.INCOMPLETE, call("carry", 0, 0), I);
        noSystem(State.PLAIN, call("carry", 0, 2), NONE);
        add(State.PLAIN, call("carry", 0, -1), B);
        add(State.INCOMPLETE, call("carry", 0, -1), B, I);
        add(State.INCOMPLETE, call("carry", 0, 0), I);
        add(State.INCOMPLETE, call("carry", 0, 1000), I, NONE);
        add(State.PLAIN, call("carry", 0, 2), NONE);
    }
}

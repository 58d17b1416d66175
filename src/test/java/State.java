import java.util.function.Consumer;

/** Objects in states in which errors apply; both systems are alike, but for the last two. */
enum State {
    /** Base 10, and the rows 321, 54 and 7. */
    PLAIN(x -> { }),
    FULL_LISTS(x -> forBoth(s -> {
        x.addDigit(s, 20);
        x.addDigit(s, -20);
    })),
    NO_DIGITS(x -> forBoth(s -> Check.giveDigits(x, s))),
    /** Base 10 without the digit 5. */
    INCOMPLETE(x -> forBoth(s -> x.removeDigit(s, 5))),
    FULL_ROWS(x -> fillAll(x, 9)),
    FULL_ROWS_INCOMPLETE(x -> {
        fillAll(x, 9);
        forBoth(s -> x.removeDigit(s, 5));
    }),
    NEGATIVE_ROWS(x -> {
        for (int row = 0; row < 3; row++) {
            Check.fill(x, row, -1);
        }
    }),
    BINARY(x -> forBoth(s -> x.setBase(s, 2, 1))),
    /** Base 2 with the digit 1 alone: 13 of them are 8191. */
    BINARY_INCOMPLETE(x -> forBoth(s -> {
        x.setBase(s, 2, 1);
        x.removeDigit(s, 0);
    })),
    /** Base 3 / 2; the rows have the values 10, 1 / 2 and -1. */
    HALVES(x -> {
        forBoth(s -> x.setBase(s, 3, 2));
        Check.fill(x, 0, 2, 0, 2, 1, 2);
        Check.fill(x, 1, 1);
        Check.fill(x, 2, -2);
    }),
    HALVES_INCOMPLETE(x -> {
        HALVES.change.accept(x);
        forBoth(s -> x.removeDigit(s, 1));
    }),
    SEVENTHS(x -> forBoth(s -> x.setBase(s, 7, 1))),
    /** Base -10; row 0 is 1. */
    NEGATIVE_BASE(x -> {
        forBoth(s -> x.setBase(s, -10, 1));
        Check.fill(x, 0, 1);
    }),
    /** Base 2 with digits in which many more than a million rows of twelve have the value 0. */
    MANY_ROWS(x -> forBoth(s -> {
        x.setBase(s, 2, 1);
        Check.giveDigits(x, s, -20, -18, -16, -14, -12, -10, 10, 12, 14, 16, 18, 20);
    })),
    /** System 0 has base 10, system 1 base 2; the rows have the values 4095, 4096 and 100001 in system 0. */
    TO_BINARY(x -> {
        x.setBase(1, 2, 1);
        Check.fill(x, 0, 5, 9, 0, 4);
        Check.fill(x, 1, 6, 9, 0, 4);
        Check.fill(x, 2, 1, 0, 0, 0, 0, 1);
    }),
    TO_BINARY_INCOMPLETE(x -> {
        TO_BINARY.change.accept(x);
        x.removeDigit(1, 0);
    });

    private final Consumer<NumerationSystems> change;

    State(Consumer<NumerationSystems> change) {
        this.change = change;
    }

    NumerationSystems make() {
        NumerationSystems x = new NumerationSystems();
        Check.fill(x, 0, 1, 2, 3);
        Check.fill(x, 1, 4, 5);
        Check.fill(x, 2, 7);
        change.accept(x);
        return x;
    }

    private static void forBoth(Consumer<Integer> change) {
        change.accept(0);
        change.accept(1);
    }

    private static void fillAll(NumerationSystems x, int entry) {
        for (int row = 0; row < 3; row++) {
            x.clear(row);
            for (int i = 0; i < 12; i++) {
                x.push(row, entry);
            }
        }
    }
}

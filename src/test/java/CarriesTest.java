/** Promises 31 to 33: the carries. */
public final class CarriesTest {
    private static final int[] WRONG = {-1, 2, Integer.MIN_VALUE, Integer.MAX_VALUE};

    private static void nextCarry() {
        NumerationSystems x = new NumerationSystems();
        Check.due("3 and 15 in 10", 1, x.nextCarry(0, 3, 15));
        Check.due("-1 and 0 in 10", -1, x.nextCarry(0, -1, 0));
        Check.due("10000 and 2000 in 10", 1200, x.nextCarry(0, 10000, 2000));
        Check.due("-10000 and -2000 in 10", -1200, x.nextCarry(0, -10000, -2000));
        x.setBase(0, -10, 9);
        Check.due("-10000 and 2000 in -10 / 9", 8800, x.nextCarry(0, -10000, 2000));
        // 9 * 3 + 15 = 42, the digit is 2
        Check.due("3 and 15 in -10 / 9", -4, x.nextCarry(0, 3, 15));
        x.addDigit(0, -18);
        x.choose(0, -18);
        Check.due("3 and 15 with the digit -18", -6, x.nextCarry(0, 3, 15));
        for (int carry : new int[] {-10001, 10001, Integer.MIN_VALUE, Integer.MAX_VALUE}) {
            Check.due("carry " + carry, Check.BAD_VALUE, x.nextCarry(0, carry, 0));
        }
        for (int sum : new int[] {-2001, 2001, Integer.MIN_VALUE, Integer.MAX_VALUE}) {
            Check.due("sum " + sum, Check.BAD_VALUE, x.nextCarry(0, 0, sum));
        }
        x.removeDigit(1, 5);
        Check.due("incomplete", Check.INCOMPLETE, x.nextCarry(1, 10000, -2000));
        Check.due("incomplete, no carry", Check.BAD_VALUE, x.nextCarry(1, 10001, 0));
        Check.due("incomplete, no sum", Check.BAD_VALUE, x.nextCarry(1, 0, 2001));
        for (int wrong : WRONG) {
            Check.due("no system", Check.UNKNOWN, x.nextCarry(wrong, 0, 0));
            Check.due("no system, no carry", Check.UNKNOWN, x.nextCarry(wrong, 10001, 2001));
        }
    }

    private static void dueCarries(NumerationSystems x, int system, int... want) {
        Check.due("carryCount(" + system + ")", want.length, x.carryCount(system));
        for (int k = 0; k < want.length; k++) {
            Check.due("carry(" + system + ", " + k + ")", want[k], x.carry(system, k));
        }
        Check.due("carry(" + system + ", " + want.length + ")", Check.NONE, x.carry(system, want.length));
        Check.due("the greatest k", Check.NONE, x.carry(system, Integer.MAX_VALUE));
    }

    private static void carries() {
        NumerationSystems x = new NumerationSystems();
        dueCarries(x, 0, 0, 1);
        x.setBase(0, 3, 1);
        Check.giveDigits(x, 0, 0, 1, -1);
        dueCarries(x, 0, -1, 0, 1);
        dueCarries(x, 1, 0, 1);
        // By 6, 7 and 8 from 0: -2, -1, 0; then by 3 and 4 also 1; then by 0 also 2 and 3.
        x.setBase(1, -2, 1);
        Check.giveDigits(x, 1, 3, 4);
        dueCarries(x, 1, -2, -1, 0, 1, 2, 3);
        // -1 comes by one digit: from -2 by -5. Two digits would lead to it only from 1, 2, 3 and 4,
        // which come at last, by the sum 0.
        x.setBase(0, 2, 1);
        Check.giveDigits(x, 0, -5, -4);
        dueCarries(x, 0, -5, -4, -3, -2, -1, 0, 1, 2, 3, 4);
        // By -8 to -4 also -1 to 3; then by -4, -3, -2 also -2; then by 0 also -3, and no more.
        Check.giveDigits(x, 1, -2, -4, -3);
        dueCarries(x, 1, -3, -2, -1, 0, 1, 2, 3);
    }

    private static void farthestCarries() {
        NumerationSystems x = new NumerationSystems();
        x.setBase(0, 10, 9);
        for (int digit = 1; digit <= 9; digit++) {
            x.removeDigit(0, digit);
            x.addDigit(0, digit - 10);
        }
        x.addDigit(0, 20);
        // The digits -9 to 0 are chosen: 39 with 40 gives (40 + 9 * 39 + 9) / 10 = 40, and 40 gives 40.
        Check.due("the greatest carry", 40, x.carry(0, x.carryCount(0) - 1));
        // The digit -20 for 0: 40 gives (40 + 9 * 40 + 20) / 10 = 42, and 42 gives 42.
        x.addDigit(0, -20);
        x.choose(0, -20);
        Check.due("the greatest carry", 42, x.carry(0, x.carryCount(0) - 1));
    }

    private static void faults() {
        NumerationSystems x = new NumerationSystems();
        x.removeDigit(1, 5);
        Check.due("carryCount: incomplete", Check.INCOMPLETE, x.carryCount(1));
        Check.due("carry: incomplete", Check.INCOMPLETE, x.carry(1, 0));
        Check.due("carry: incomplete, a great k", Check.INCOMPLETE, x.carry(1, 1000));
        for (int k : new int[] {-1, Integer.MIN_VALUE}) {
            Check.due("carry: k " + k, Check.BAD_VALUE, x.carry(0, k));
            Check.due("carry: incomplete, k " + k, Check.BAD_VALUE, x.carry(1, k));
        }
        for (int wrong : WRONG) {
            Check.due("carryCount: no system", Check.UNKNOWN, x.carryCount(wrong));
            Check.due("carry: no system", Check.UNKNOWN, x.carry(wrong, 0));
            Check.due("carry: no system, no k", Check.UNKNOWN, x.carry(wrong, -1));
        }
    }

    public static void main(String[] args) {
        nextCarry();
        carries();
        farthestCarries();
        faults();
        Check.finish("CarriesTest");
    }
}

/**
 * Two numeration systems with the bases p / q and freely chosen digits, and three rows of entries.
 * The public methods check their arguments in the order that the document gives; the work is done
 * by the classes inside, which every object makes once and uses again for all its calls.
 */
public final class NumerationSystems {
    public static final int UNKNOWN = -1000001;
    public static final int BAD_VALUE = -1000002;
    public static final int INCOMPLETE = -1000003;
    public static final int NOT_POSSIBLE = -1000004;
    public static final int FULL = -1000005;
    public static final int NONE = -1000006;
    public static final long NO_VALUE = Long.MIN_VALUE;

    private static final int DIGIT = 0;
    private static final int NUMERATOR = 1;
    private static final int PREPERIOD = 2;
    private static final int PERIOD = 3;
    private static final int LENGTH = 4;

    private static final int SYSTEMS = 2;
    private static final int ROWS = 3;
    private static final int LARGEST_P = 10;
    private static final int LARGEST_Q = 9;
    private static final int LARGEST_N = 60;
    private static final int LARGEST_DIGIT = 20;
    private static final int LARGEST_INTEGER = 100000;
    private static final int LARGEST_FACTOR = 100;
    private static final int LARGEST_CARRY = 10000;
    private static final int LARGEST_SUM = 2000;
    private static final int LAST_PLACE = 1000000000;
    private static final int LAST_ROW_NUMBER = 999999;
    private static final int MOST_ROWS_COUNTED = 1000000;
    private static final int MOST_DIGITS = 12;
    private static final int MOST_ENTRIES = 12;

    /** Far more steps than any expansion takes before it repeats. */
    private static final int MANY_STEPS = 1000000;
    /** More than Euclid's algorithm takes for any two longs. */
    private static final int MANY_DIVISIONS = 200;

    private final NumberSystem[] systems = new NumberSystem[SYSTEMS];
    private final Row[] rows = new Row[ROWS];
    private final Computation computation = new Computation();
    private final Fraction fraction = new Fraction();
    private final Fraction otherFraction = new Fraction();

    public NumerationSystems() {
        for (int i = 0; i < SYSTEMS; i++) {
            systems[i] = newSystem();
        }
        for (int i = 0; i < ROWS; i++) {
            rows[i] = new Row();
        }
    }

    // ---- systems

    public int setBase(int system, int p, int q) {
        NumberSystem found = systemAt(system);
        if (found == null) {
            return UNKNOWN;
        }
        if (!isBase(p, q)) {
            return BAD_VALUE;
        }
        found.base.become(p, q);
        return found.base.residues;
    }

    public int addDigit(int system, int digit) {
        NumberSystem found = systemAt(system);
        if (found == null) {
            return UNKNOWN;
        }
        if (!isWithin(digit, LARGEST_DIGIT)) {
            return BAD_VALUE;
        }
        if (found.base.placeOf(digit) >= 0) {
            return NOT_POSSIBLE;
        }
        if (found.base.count >= MOST_DIGITS) {
            return FULL;
        }
        found.base.append(digit);
        return found.base.count;
    }

    public int removeDigit(int system, int digit) {
        NumberSystem found = systemAt(system);
        if (found == null) {
            return UNKNOWN;
        }
        int place = found.base.placeOf(digit);
        if (place < 0) {
            return NOT_POSSIBLE;
        }
        found.base.removeAt(place);
        return found.base.count;
    }

    public int choose(int system, int digit) {
        NumberSystem found = systemAt(system);
        if (found == null) {
            return UNKNOWN;
        }
        int place = found.base.placeOf(digit);
        if (place < 0) {
            return NOT_POSSIBLE;
        }
        found.base.moveToFront(place);
        return place;
    }

    public int digitAt(int system, int place) {
        NumberSystem found = systemAt(system);
        if (found == null || place < 0 || place >= found.base.count) {
            return UNKNOWN;
        }
        return found.base.listed(place);
    }

    public int chosen(int system, int residue) {
        NumberSystem found = systemAt(system);
        if (found == null) {
            return UNKNOWN;
        }
        if (residue < 0 || residue >= found.base.residues) {
            return BAD_VALUE;
        }
        return found.base.digitFor(residue);
    }

    public int system(int system, int what) {
        NumberSystem found = systemAt(system);
        if (found == null) {
            return UNKNOWN;
        }
        switch (what) {
            case 0:
                return found.base.p;
            case 1:
                return found.base.q;
            case 2:
                return found.base.count;
            case 3:
                return found.base.complete ? 1 : 0;
            case 4:
                return found.base.greatestAbsoluteDigit();
            default:
                return BAD_VALUE;
        }
    }

    // ---- expansions

    public int digit(int system, int m, int n, int place) {
        return tellOfExpansion(DIGIT, system, m, n, place);
    }

    public int numerator(int system, int m, int n, int place) {
        return tellOfExpansion(NUMERATOR, system, m, n, place);
    }

    public int preperiod(int system, int m, int n) {
        return tellOfExpansion(PREPERIOD, system, m, n, 0);
    }

    public int period(int system, int m, int n) {
        return tellOfExpansion(PERIOD, system, m, n, 0);
    }

    public int length(int system, int m, int n) {
        return tellOfExpansion(LENGTH, system, m, n, 0);
    }

    // ---- cycles

    public int cycleCount(int system) {
        NumberSystem found = systemAt(system);
        if (found == null) {
            return UNKNOWN;
        }
        if (!found.base.complete) {
            return INCOMPLETE;
        }
        return found.cycles.countUpTo(LARGEST_DIGIT);
    }

    public int cycle(int system, int k, int what) {
        NumberSystem found = systemAt(system);
        if (found == null) {
            return UNKNOWN;
        }
        if (k < 0 || what < 0 || what > 2) {
            return BAD_VALUE;
        }
        if (!found.base.complete) {
            return INCOMPLETE;
        }
        if (k >= found.cycles.countUpTo(LARGEST_DIGIT)) {
            return NONE;
        }
        int least = found.cycles.leastOf(k);
        switch (what) {
            case 0:
                return least;
            case 1:
                return found.cycles.elementsFrom(least);
            default:
                return found.cycles.greatestFrom(least);
        }
    }

    public int leadsTo(int system, int m) {
        NumberSystem found = systemAt(system);
        if (found == null) {
            return UNKNOWN;
        }
        if (!isWithin(m, LARGEST_INTEGER)) {
            return BAD_VALUE;
        }
        if (!found.base.complete) {
            return INCOMPLETE;
        }
        found.walk.begin(m, 1);
        return found.cycles.numberOf(found.walk.entrance);
    }

    public int reachesAll(int system) {
        NumberSystem found = systemAt(system);
        if (found == null) {
            return UNKNOWN;
        }
        if (!found.base.complete) {
            return INCOMPLETE;
        }
        return found.base.keepsZero() && found.cycles.countUpTo(LARGEST_DIGIT) == 1 ? 1 : 0;
    }

    // ---- all expansions

    public int expansions(int system, int m, int length) {
        NumberSystem found = systemAt(system);
        if (found == null) {
            return UNKNOWN;
        }
        if (!isWithin(m, LARGEST_INTEGER) || length < 0 || length > MOST_ENTRIES) {
            return BAD_VALUE;
        }
        long count = found.ways.rowsWith(m, length);
        return count > MOST_ROWS_COUNTED ? MOST_ROWS_COUNTED : (int) count;
    }

    public int expansionDigit(int system, int m, int length, int k, int entry) {
        NumberSystem found = systemAt(system);
        if (found == null) {
            return UNKNOWN;
        }
        boolean lengthFits = length >= 0 && length <= MOST_ENTRIES;
        if (lengthFits && (entry < 0 || entry >= length)) {
            return UNKNOWN;
        }
        if (!isWithin(m, LARGEST_INTEGER) || !lengthFits || k < 0 || k > LAST_ROW_NUMBER) {
            return BAD_VALUE;
        }
        if (k >= found.ways.rowsWith(m, length)) {
            return NONE;
        }
        return found.ways.entryOfRow(m, k, entry);
    }

    public int shortest(int system, int m) {
        NumberSystem found = systemAt(system);
        if (found == null) {
            return UNKNOWN;
        }
        if (!isWithin(m, LARGEST_INTEGER)) {
            return BAD_VALUE;
        }
        return found.ways.leastLength(m);
    }

    // ---- rows

    public int push(int row, int entry) {
        Row found = rowAt(row);
        if (found == null) {
            return UNKNOWN;
        }
        if (!isWithin(entry, LARGEST_DIGIT)) {
            return BAD_VALUE;
        }
        if (found.count >= MOST_ENTRIES) {
            return FULL;
        }
        found.append(entry);
        return found.count;
    }

    public int clear(int row) {
        Row found = rowAt(row);
        if (found == null) {
            return UNKNOWN;
        }
        int had = found.count;
        found.count = 0;
        return had;
    }

    public int size(int row) {
        Row found = rowAt(row);
        return found == null ? UNKNOWN : found.count;
    }

    public int entry(int row, int place) {
        Row found = rowAt(row);
        if (found == null || place < 0 || place >= found.count) {
            return UNKNOWN;
        }
        return found.entryOrZero(place);
    }

    public long value(int system, int row, boolean denominator) {
        NumberSystem found = systemAt(system);
        Row read = rowAt(row);
        if (found == null || read == null) {
            return NO_VALUE;
        }
        fraction.read(found.base, read);
        return denominator ? fraction.bottom : fraction.top;
    }

    public int compare(int system, int row, int otherSystem, int otherRow) {
        NumberSystem found = systemAt(system);
        Row read = rowAt(row);
        NumberSystem otherFound = systemAt(otherSystem);
        Row otherRead = rowAt(otherRow);
        if (found == null || read == null || otherFound == null || otherRead == null) {
            return UNKNOWN;
        }
        fraction.read(found.base, read);
        otherFraction.read(otherFound.base, otherRead);
        return fraction.orderTo(otherFraction) + 1;
    }

    public int load(int system, int m, int row) {
        NumberSystem found = systemAt(system);
        Row target = rowAt(row);
        if (found == null || target == null) {
            return UNKNOWN;
        }
        if (!isWithin(m, LARGEST_INTEGER)) {
            return BAD_VALUE;
        }
        if (!found.base.complete) {
            return INCOMPLETE;
        }
        return expandInto(found, m, target);
    }

    public int add(int system, int row, int other, int target) {
        NumberSystem found = systemAt(system);
        Row read = rowAt(row);
        Row otherRead = rowAt(other);
        Row written = rowAt(target);
        if (found == null || read == null || otherRead == null || written == null) {
            return UNKNOWN;
        }
        if (!found.base.complete) {
            return INCOMPLETE;
        }
        computation.giveSums(read, otherRead);
        return compute(found, written);
    }

    public int multiply(int system, int row, int factor, int target) {
        NumberSystem found = systemAt(system);
        Row read = rowAt(row);
        Row written = rowAt(target);
        if (found == null || read == null || written == null) {
            return UNKNOWN;
        }
        if (!isWithin(factor, LARGEST_FACTOR)) {
            return BAD_VALUE;
        }
        if (!found.base.complete) {
            return INCOMPLETE;
        }
        computation.giveMultiples(read, factor);
        return compute(found, written);
    }

    public int convert(int system, int row, int target) {
        NumberSystem found = systemAt(system);
        NumberSystem into = systemAt(SYSTEMS - 1 - system);
        Row read = rowAt(row);
        Row written = rowAt(target);
        if (found == null || into == null || read == null || written == null) {
            return UNKNOWN;
        }
        if (!into.base.complete) {
            return INCOMPLETE;
        }
        fraction.read(found.base, read);
        if (fraction.bottom != 1 || fraction.top < -LARGEST_INTEGER || fraction.top > LARGEST_INTEGER) {
            return NOT_POSSIBLE;
        }
        return expandInto(into, (int) fraction.top, written);
    }

    // ---- carries

    public int nextCarry(int system, int carry, int sum) {
        NumberSystem found = systemAt(system);
        if (found == null) {
            return UNKNOWN;
        }
        if (!isWithin(carry, LARGEST_CARRY) || !isWithin(sum, LARGEST_SUM)) {
            return BAD_VALUE;
        }
        if (!found.base.complete) {
            return INCOMPLETE;
        }
        return found.base.carryBehind(carry, sum);
    }

    public int carryCount(int system) {
        NumberSystem found = systemAt(system);
        if (found == null) {
            return UNKNOWN;
        }
        if (!found.base.complete) {
            return INCOMPLETE;
        }
        found.carries.collect();
        return found.carries.count;
    }

    public int carry(int system, int k) {
        NumberSystem found = systemAt(system);
        if (found == null) {
            return UNKNOWN;
        }
        if (k < 0) {
            return BAD_VALUE;
        }
        if (!found.base.complete) {
            return INCOMPLETE;
        }
        found.carries.collect();
        return found.carries.ascending(k);
    }

    // ---- what the methods above share

    private static NumberSystem newSystem() {
        Base base = new Base();
        return new NumberSystem(base, new Walk(base), new Cycles(base), new Ways(base), new CarrySet(base));
    }

    private NumberSystem systemAt(int number) {
        return number < 0 || number >= systems.length ? null : systems[number];
    }

    private Row rowAt(int number) {
        return number < 0 || number >= rows.length ? null : rows[number];
    }

    private static boolean isWithin(int number, int limit) {
        return number >= -limit && number <= limit;
    }

    private static boolean isBase(int p, int q) {
        if (!isWithin(p, LARGEST_P) || q < 1 || q > LARGEST_Q) {
            return false;
        }
        int residues = Math.abs(p);
        return residues >= 2 && q < residues && commonDivisor(residues, q) == 1;
    }

    private static long commonDivisor(long one, long other) {
        long a = Math.abs(one);
        long b = Math.abs(other);
        for (int i = 0; i < MANY_DIVISIONS && b != 0; i++) {
            long rest = a % b;
            a = b;
            b = rest;
        }
        return a;
    }

    private int tellOfExpansion(int asked, int system, int m, int n, int place) {
        NumberSystem found = systemAt(system);
        if (found == null) {
            return UNKNOWN;
        }
        if (!isWithin(m, LARGEST_INTEGER) || n < 1 || n > LARGEST_N || place < 0 || place > LAST_PLACE) {
            return BAD_VALUE;
        }
        if (!found.base.complete) {
            return INCOMPLETE;
        }
        if (commonDivisor(n, found.base.residues) != 1) {
            return NOT_POSSIBLE;
        }
        found.walk.begin(m, n);
        switch (asked) {
            case DIGIT:
                return found.walk.digitOf(found.walk.numeratorAt(place));
            case NUMERATOR:
                return found.walk.numeratorAt(place);
            case PREPERIOD:
                return found.walk.before;
            case PERIOD:
                return found.walk.around;
            default:
                return found.walk.isFinite() ? found.walk.before : NONE;
        }
    }

    private static int expandInto(NumberSystem numbers, int m, Row target) {
        Walk walk = numbers.walk;
        walk.begin(m, 1);
        if (!walk.isFinite()) {
            return NOT_POSSIBLE;
        }
        if (walk.before > MOST_ENTRIES) {
            return FULL;
        }
        int length = walk.before;
        int rest = m;
        target.count = 0;
        for (int i = 0; i < length; i++) {
            target.append(walk.digitOf(rest));
            rest = walk.after(rest);
        }
        return target.count;
    }

    private int compute(NumberSystem numbers, Row target) {
        if (!computation.carryThrough(numbers.base)) {
            return FULL;
        }
        target.become(computation.result);
        return target.count;
    }

    /** A system with all that works on it. */
    private static final class NumberSystem {
        private final Base base;
        private final Walk walk;
        private final Cycles cycles;
        private final Ways ways;
        private final CarrySet carries;

        private NumberSystem(Base base, Walk walk, Cycles cycles, Ways ways, CarrySet carries) {
            this.base = base;
            this.walk = walk;
            this.cycles = cycles;
            this.ways = ways;
            this.carries = carries;
        }
    }

    /** The base p / q, the list of digits, and for each residue its chosen digit. */
    private static final class Base {
        private int p;
        private int q;
        private int residues;
        private int count;
        private boolean complete;
        private final int[] digits = new int[MOST_DIGITS];
        private final int[] chosenDigits = new int[LARGEST_P];

        private Base() {
            become(LARGEST_P, 1);
        }

        private void become(int newP, int newQ) {
            p = newP;
            q = newQ;
            residues = Math.abs(newP);
            count = residues;
            for (int i = 0; i < count && i < digits.length; i++) {
                digits[i] = i;
            }
            chooseAgain();
        }

        private int listed(int place) {
            return place >= 0 && place < digits.length ? digits[place] : 0;
        }

        private int placeOf(int digit) {
            for (int i = 0; i < count && i < digits.length; i++) {
                if (digits[i] == digit) {
                    return i;
                }
            }
            return -1;
        }

        private void append(int digit) {
            if (count < 0 || count >= digits.length) {
                return;
            }
            digits[count] = digit;
            count++;
            chooseAgain();
        }

        private void removeAt(int place) {
            if (place < 0 || place >= count) {
                return;
            }
            for (int i = place; i + 1 < count && i + 1 < digits.length; i++) {
                digits[i] = digits[i + 1];
            }
            count--;
            chooseAgain();
        }

        private void moveToFront(int place) {
            if (place < 0 || place >= digits.length) {
                return;
            }
            int moved = digits[place];
            for (int i = place; i > 0; i--) {
                digits[i] = digits[i - 1];
            }
            digits[0] = moved;
            chooseAgain();
        }

        /** Goes through the list from its end, so that the first digit of a residue stays. */
        private void chooseAgain() {
            for (int i = 0; i < chosenDigits.length; i++) {
                chosenDigits[i] = NONE;
            }
            for (int i = count - 1; i >= 0; i--) {
                int digit = listed(i);
                int residue = residueOf(digit);
                if (residue >= 0 && residue < chosenDigits.length) {
                    chosenDigits[residue] = digit;
                }
            }
            complete = true;
            for (int i = 0; i < residues; i++) {
                if (digitFor(i) == NONE) {
                    complete = false;
                }
            }
        }

        private int residueOf(int number) {
            return residues == 0 ? 0 : Math.floorMod(number, residues);
        }

        /** The chosen digit with the residue of a number, NONE if there is none. */
        private int digitFor(int number) {
            int residue = residues == 0 ? 0 : Math.floorMod(number, residues);
            return residue >= 0 && residue < chosenDigits.length ? chosenDigits[residue] : NONE;
        }

        private boolean divides(int number) {
            return p != 0 && number % p == 0;
        }

        private int quotient(int number) {
            return p == 0 ? 0 : number / p;
        }

        /** The next carry; with the sum 0 this is also the step of the division for n = 1. */
        private int carryBehind(int carry, int sum) {
            int total = sum + q * carry;
            return quotient(total - digitFor(total));
        }

        private boolean keepsZero() {
            return digitFor(0) == 0;
        }

        private int leastDigit() {
            int least = LARGEST_DIGIT;
            for (int i = 0; i < count; i++) {
                least = Math.min(least, listed(i));
            }
            return least;
        }

        private int greatestDigit() {
            int greatest = -LARGEST_DIGIT;
            for (int i = 0; i < count; i++) {
                greatest = Math.max(greatest, listed(i));
            }
            return greatest;
        }

        private int greatestAbsoluteDigit() {
            int greatest = 0;
            for (int i = 0; i < count; i++) {
                greatest = Math.max(greatest, Math.abs(listed(i)));
            }
            return greatest;
        }
    }

    /** The steps from a numerator m on for a denominator n, and where the numerators repeat. */
    private static final class Walk {
        private final Base base;
        private int start;
        private int n = 1;
        /** The number that gives 1 with n, up to multiples of P. */
        private int inverse = 1;
        /** The preperiod, the period, and the first numerator that occurs again. */
        private int before;
        private int around = 1;
        private int entrance;

        private Walk(Base base) {
            this.base = base;
        }

        private void begin(int newStart, int newN) {
            start = newStart;
            n = newN;
            inverse = inverseOf(newN);
            around = distanceAround();
            findEntrance(ahead(newStart, around));
        }

        private int inverseOf(int number) {
            for (int i = 1; i < base.residues; i++) {
                if (base.residueOf(i * number) == 1) {
                    return i;
                }
            }
            return 1;
        }

        private int digitOf(int numerator) {
            return base.digitFor(base.q * numerator * inverse);
        }

        private int after(int numerator) {
            int dividend = base.q * numerator;
            return base.quotient(dividend - base.digitFor(dividend * inverse) * n);
        }

        private int ahead(int numerator, int steps) {
            int reached = numerator;
            for (int i = 0; i < steps; i++) {
                reached = after(reached);
            }
            return reached;
        }

        /** Brent's search: it waits at a numerator, twice as long each time, for it to come again. */
        private int distanceAround() {
            int awaited = start;
            int reached = start;
            int patience = 1;
            int distance = 0;
            for (int i = 0; i < MANY_STEPS; i++) {
                reached = after(reached);
                distance++;
                if (reached == awaited) {
                    return distance;
                }
                if (distance == patience) {
                    awaited = reached;
                    patience = 2 * patience;
                    distance = 0;
                }
            }
            return 1;
        }

        /** Goes on from the start and from the numerator a period ahead of it, until they are equal. */
        private void findEntrance(int aheadOfStart) {
            int behind = start;
            int front = aheadOfStart;
            before = 0;
            for (int i = 0; i < MANY_STEPS && behind != front; i++) {
                behind = after(behind);
                front = after(front);
                before++;
            }
            entrance = behind;
        }

        private int numeratorAt(int place) {
            if (place < before || around < 1) {
                return ahead(start, Math.min(place, before));
            }
            return ahead(entrance, (place - before) % around);
        }

        /** The period of the numerator 0 is 1 only if its step gives the digit 0. */
        private boolean isFinite() {
            return entrance == 0 && around == 1;
        }
    }

    /** The cycles of the steps for n = 1, all of which lie within the greatest absolute digit. */
    private static final class Cycles {
        private final Base base;

        private Cycles(Base base) {
            this.base = base;
        }

        private boolean isLeastOfCycle(int m) {
            int reached = m;
            for (int i = 0; i <= 2 * LARGEST_DIGIT; i++) {
                reached = base.carryBehind(reached, 0);
                if (reached <= m) {
                    return reached == m;
                }
            }
            return false;
        }

        /** The number of the cycles whose least elements go up to a bound. */
        private int countUpTo(int last) {
            int cyclesSeen = 0;
            for (int m = -LARGEST_DIGIT; m <= last && m <= LARGEST_DIGIT; m++) {
                if (isLeastOfCycle(m)) {
                    cyclesSeen++;
                }
            }
            return cyclesSeen;
        }

        private int leastOf(int k) {
            int cyclesSeen = 0;
            for (int m = -LARGEST_DIGIT; m <= LARGEST_DIGIT; m++) {
                if (isLeastOfCycle(m)) {
                    if (cyclesSeen == k) {
                        return m;
                    }
                    cyclesSeen++;
                }
            }
            return NONE;
        }

        private int elementsFrom(int m) {
            int elements = 1;
            int reached = base.carryBehind(m, 0);
            for (int i = 0; i <= 2 * LARGEST_DIGIT && reached != m; i++) {
                reached = base.carryBehind(reached, 0);
                elements++;
            }
            return elements;
        }

        private int greatestFrom(int m) {
            int greatest = m;
            int reached = m;
            for (int i = 0; i <= 2 * LARGEST_DIGIT; i++) {
                reached = base.carryBehind(reached, 0);
                greatest = Math.max(greatest, reached);
            }
            return greatest;
        }

        /** The number of the cycle that an element belongs to. */
        private int numberOf(int element) {
            int least = element;
            int reached = element;
            for (int i = 0; i <= 2 * LARGEST_DIGIT; i++) {
                reached = base.carryBehind(reached, 0);
                least = Math.min(least, reached);
            }
            return countUpTo(least) - 1;
        }
    }

    /**
     * Counts the rows of digits with a given value. If a row with the first digit a has the integer
     * value v, then the row behind a has the value (q * v - a) / p, an integer too. So the values
     * of what is left behind so many digits, a level, lie between two bounds that are never more
     * than 40 apart, and a small table has room for all of them.
     */
    private static final class Ways {
        private static final int WIDTH = 2 * LARGEST_DIGIT + 1;

        private final Base base;
        private final int[] lowest = new int[MOST_ENTRIES + 1];
        private final int[] highest = new int[MOST_ENTRIES + 1];
        private final long[] table = new long[(MOST_ENTRIES + 1) * WIDTH];
        private int levels;
        /** While the digits of a row are taken: the value of what is left of it, and its number there. */
        private int value;
        private long rank;

        private Ways(Base base) {
            this.base = base;
        }

        private long rowsWith(int m, int length) {
            findBounds(m);
            levels = length;
            for (int level = length; level >= 0; level--) {
                int last = highestAt(level);
                for (int v = lowestAt(level); v <= last; v++) {
                    put(level, v, level == length ? (v == 0 ? 1 : 0) : rowsFrom(level, v));
                }
            }
            return at(0, m);
        }

        /** A digit of the row that rowsWith has counted as number k. */
        private int entryOfRow(int m, int k, int entry) {
            value = m;
            rank = k;
            int digit = NONE;
            for (int level = 0; level <= entry && level < levels; level++) {
                digit = takeDigit(level);
                value = base.quotient(base.q * value - digit);
            }
            return digit;
        }

        private int takeDigit(int level) {
            for (int i = 0; i < base.count; i++) {
                long rows = rowsBehind(level, value, base.listed(i));
                if (rank < rows) {
                    return base.listed(i);
                }
                rank -= rows;
            }
            return NONE;
        }

        private int leastLength(int m) {
            findBounds(m);
            put(0, m, 1);
            for (int level = 0; level <= MOST_ENTRIES; level++) {
                if (at(level, 0) != 0) {
                    return level;
                }
                markBehind(level);
            }
            return NONE;
        }

        private void markBehind(int level) {
            int lastBehind = highestAt(level + 1);
            for (int v = lowestAt(level + 1); v <= lastBehind; v++) {
                put(level + 1, v, 0);
            }
            int last = highestAt(level);
            for (int v = lowestAt(level); v <= last; v++) {
                if (at(level, v) != 0) {
                    markFrom(level, v);
                }
            }
        }

        private void markFrom(int level, int v) {
            for (int i = 0; i < base.count; i++) {
                int rest = base.q * v - base.listed(i);
                if (base.divides(rest)) {
                    put(level + 1, base.quotient(rest), 1);
                }
            }
        }

        private long rowsFrom(int level, int v) {
            long rows = 0;
            for (int i = 0; i < base.count; i++) {
                rows += rowsBehind(level, v, base.listed(i));
            }
            return rows;
        }

        private long rowsBehind(int level, int v, int digit) {
            int rest = base.q * v - digit;
            return base.divides(rest) ? at(level + 1, base.quotient(rest)) : 0;
        }

        private void findBounds(int m) {
            int least = base.leastDigit();
            int greatest = base.greatestDigit();
            lowest[0] = m;
            highest[0] = m;
            for (int i = 0; i + 1 < lowest.length && i + 1 < highest.length; i++) {
                int small = base.q * lowest[i] - greatest;
                int large = base.q * highest[i] - least;
                int low = quotientAbove(base.p > 0 ? small : large);
                int high = quotientBelow(base.p > 0 ? large : small);
                lowest[i + 1] = low;
                highest[i + 1] = Math.min(high, low + WIDTH - 1);
            }
        }

        private int quotientBelow(int number) {
            return base.p == 0 ? 0 : Math.floorDiv(number, base.p);
        }

        private int quotientAbove(int number) {
            return base.p == 0 ? 0 : -Math.floorDiv(-number, base.p);
        }

        private int lowestAt(int level) {
            return level >= 0 && level < lowest.length ? lowest[level] : 0;
        }

        private int highestAt(int level) {
            return level >= 0 && level < highest.length ? highest[level] : -1;
        }

        /** The index of a value at a level, -1 if it is beyond the bounds. */
        private int cell(int level, int v) {
            if (v < lowestAt(level) || v > highestAt(level)) {
                return -1;
            }
            return level * WIDTH + v - lowestAt(level);
        }

        private long at(int level, int v) {
            int index = cell(level, v);
            return index >= 0 && index < table.length ? table[index] : 0;
        }

        private void put(int level, int v, long number) {
            int index = cell(level, v);
            if (index >= 0 && index < table.length) {
                table[index] = number;
            }
        }
    }

    /** The carries that can occur; none is beyond three times the greatest absolute digit. */
    private static final class CarrySet {
        private static final int FARTHEST = 3 * LARGEST_DIGIT;

        private final Base base;
        private final int[] found = new int[2 * FARTHEST + 1];
        private final boolean[] seen = new boolean[2 * FARTHEST + 1];
        private int count;

        private CarrySet(Base base) {
            this.base = base;
        }

        private void collect() {
            count = 0;
            for (int i = 0; i < seen.length; i++) {
                seen[i] = false;
            }
            note(0);
            // Each loop also goes through the carries that it finds on its way.
            for (int i = 0; i < count && i < found.length; i++) {
                noteBehindTwoDigits(found[i]);
            }
            for (int i = 0; i < count && i < found.length; i++) {
                noteBehindOneDigit(found[i]);
            }
            for (int i = 0; i < count && i < found.length; i++) {
                note(base.carryBehind(found[i], 0));
            }
        }

        private void noteBehindTwoDigits(int carry) {
            for (int i = 0; i < base.count; i++) {
                for (int j = i; j < base.count; j++) {
                    note(base.carryBehind(carry, base.listed(i) + base.listed(j)));
                }
            }
        }

        private void noteBehindOneDigit(int carry) {
            for (int i = 0; i < base.count; i++) {
                note(base.carryBehind(carry, base.listed(i)));
            }
        }

        private void note(int carry) {
            int index = carry + FARTHEST;
            if (index < 0 || index >= seen.length || seen[index] || count < 0 || count >= found.length) {
                return;
            }
            seen[index] = true;
            found[count] = carry;
            count++;
        }

        private int ascending(int k) {
            int smaller = 0;
            for (int i = 0; i < seen.length; i++) {
                if (seen[i]) {
                    if (smaller == k) {
                        return i - FARTHEST;
                    }
                    smaller++;
                }
            }
            return NONE;
        }
    }

    /** A row of up to 12 entries. */
    private static final class Row {
        private final int[] entries = new int[MOST_ENTRIES];
        private int count;

        private void append(int entry) {
            if (count >= 0 && count < entries.length) {
                entries[count] = entry;
                count++;
            }
        }

        private int entryOrZero(int place) {
            return place >= 0 && place < count && place < entries.length ? entries[place] : 0;
        }

        private void become(Row other) {
            for (int i = 0; i < entries.length; i++) {
                entries[i] = other.entryOrZero(i);
            }
            count = other.count;
        }

        private void dropZerosAtEnd() {
            for (int i = entries.length; i > 0 && count > 0 && entryOrZero(count - 1) == 0; i--) {
                count--;
            }
        }
    }

    /** A row computed by sums; it stands apart so that a computation without end changes no row. */
    private static final class Computation {
        private final int[] sums = new int[MOST_ENTRIES];
        private int given;
        private final Row result = new Row();

        private void giveSums(Row row, Row other) {
            given = Math.max(row.count, other.count);
            for (int i = 0; i < sums.length; i++) {
                sums[i] = row.entryOrZero(i) + other.entryOrZero(i);
            }
        }

        private void giveMultiples(Row row, int factor) {
            given = row.count;
            for (int i = 0; i < sums.length; i++) {
                sums[i] = row.entryOrZero(i) * factor;
            }
        }

        /** Whether the carries come to an end within the room of a row. */
        private boolean carryThrough(Base base) {
            int carry = 0;
            result.count = 0;
            for (int i = 0; i < sums.length; i++) {
                if (isOver(base, i, carry)) {
                    break;
                }
                result.append(base.digitFor(sums[i] + base.q * carry));
                carry = base.carryBehind(carry, sums[i]);
            }
            if (!isOver(base, result.count, carry)) {
                return false;
            }
            result.dropZerosAtEnd();
            return true;
        }

        private boolean isOver(Base base, int used, int carry) {
            return used >= given && carry == 0 && base.keepsZero();
        }
    }

    /** The value of a row; its parts stay far below the limits of long. */
    private static final class Fraction {
        private long top;
        private long bottom = 1;

        /** From the end: if x is the value of the entries behind a, then (a + p * x) / q is that from a on. */
        private void read(Base base, Row row) {
            top = 0;
            bottom = 1;
            for (int i = row.count - 1; i >= 0; i--) {
                top = row.entryOrZero(i) * bottom + base.p * top;
                bottom = bottom * base.q;
            }
            long divisor = commonDivisor(top, bottom);
            if (divisor > 1) {
                top = top / divisor;
                bottom = bottom / divisor;
            }
        }

        /**
         * Gives -1, 0 or 1. The products that would be compared do not fit into long, so the
         * whole parts are compared, and, if they are equal, the rests turned upside down.
         */
        private int orderTo(Fraction other) {
            long a = top;
            long b = bottom;
            long c = other.top;
            long d = other.bottom;
            int greater = 1;
            for (int i = 0; i < MANY_DIVISIONS && b != 0 && d != 0; i++) {
                long whole = Math.floorDiv(a, b);
                long otherWhole = Math.floorDiv(c, d);
                if (whole != otherWhole) {
                    return whole > otherWhole ? greater : -greater;
                }
                long rest = a - whole * b;
                long otherRest = c - otherWhole * d;
                a = b;
                b = rest;
                c = d;
                d = otherRest;
                greater = -greater;
            }
            if (b == 0 && d == 0) {
                return 0;
            }
            return b == 0 ? greater : -greater;
        }
    }
}

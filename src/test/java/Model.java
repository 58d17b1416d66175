import java.math.BigInteger;
import java.util.ArrayList;
import java.util.HashMap;
import java.util.List;
import java.util.Map;
import java.util.TreeMap;
import java.util.TreeSet;

/**
 * The document once more, as slow and as near to its words as possible, to compare answers with.
 */
final class Model {
    private static final class Numbers {
        private int p = 10;
        private int q = 1;
        private List<Integer> digits = firstDigits(10);

        private int residues() {
            return Math.abs(p);
        }

        private static List<Integer> firstDigits(int count) {
            List<Integer> digits = new ArrayList<>();
            for (int i = 0; i < count; i++) {
                digits.add(i);
            }
            return digits;
        }

        private Integer chosenFor(long number) {
            for (int digit : digits) {
                if (Math.floorMod(number - digit, (long) residues()) == 0) {
                    return digit;
                }
            }
            return null;
        }

        private boolean complete() {
            for (int i = 0; i < residues(); i++) {
                if (chosenFor(i) == null) {
                    return false;
                }
            }
            return true;
        }

        /** The digit and the next numerator. */
        private int[] step(int m, int n) {
            for (int residue = 0; residue < residues(); residue++) {
                int a = chosenFor(residue);
                if (((long) q * m - (long) a * n) % residues() == 0) {
                    return new int[] {a, (int) (((long) q * m - (long) a * n) / p)};
                }
            }
            throw new IllegalStateException("no digit for " + m + " / " + n);
        }
    }

    private final Numbers[] systems = {new Numbers(), new Numbers()};
    private final List<List<Integer>> rows = new ArrayList<>();

    Model() {
        for (int i = 0; i < 3; i++) {
            rows.add(new ArrayList<>());
        }
    }

    private static boolean isSystem(int system) {
        return system == 0 || system == 1;
    }

    private static boolean isRow(int row) {
        return row == 0 || row == 1 || row == 2;
    }

    private static boolean isInteger(int m) {
        return m >= -100000 && m <= 100000;
    }

    int setBase(int system, int p, int q) {
        if (!isSystem(system)) {
            return Check.UNKNOWN;
        }
        boolean pFits = p >= -10 && p <= -2 || p >= 2 && p <= 10;
        if (!pFits || q < 1 || q > 9 || q >= Math.abs(p)
                || !BigInteger.valueOf(p).gcd(BigInteger.valueOf(q)).equals(BigInteger.ONE)) {
            return Check.BAD_VALUE;
        }
        systems[system].p = p;
        systems[system].q = q;
        systems[system].digits = Numbers.firstDigits(Math.abs(p));
        return Math.abs(p);
    }

    int addDigit(int system, int digit) {
        if (!isSystem(system)) {
            return Check.UNKNOWN;
        }
        if (digit < -20 || digit > 20) {
            return Check.BAD_VALUE;
        }
        List<Integer> digits = systems[system].digits;
        if (digits.contains(digit)) {
            return Check.NOT_POSSIBLE;
        }
        if (digits.size() == 12) {
            return Check.FULL;
        }
        digits.add(digit);
        return digits.size();
    }

    int removeDigit(int system, int digit) {
        if (!isSystem(system)) {
            return Check.UNKNOWN;
        }
        List<Integer> digits = systems[system].digits;
        return digits.remove((Integer) digit) ? digits.size() : Check.NOT_POSSIBLE;
    }

    int choose(int system, int digit) {
        if (!isSystem(system)) {
            return Check.UNKNOWN;
        }
        List<Integer> digits = systems[system].digits;
        int place = digits.indexOf(digit);
        if (place < 0) {
            return Check.NOT_POSSIBLE;
        }
        digits.remove(place);
        digits.add(0, digit);
        return place;
    }

    int digitAt(int system, int place) {
        if (!isSystem(system) || place < 0 || place >= systems[system].digits.size()) {
            return Check.UNKNOWN;
        }
        return systems[system].digits.get(place);
    }

    int chosen(int system, int residue) {
        if (!isSystem(system)) {
            return Check.UNKNOWN;
        }
        if (residue < 0 || residue >= systems[system].residues()) {
            return Check.BAD_VALUE;
        }
        Integer digit = systems[system].chosenFor(residue);
        return digit == null ? Check.NONE : digit;
    }

    int system(int system, int what) {
        if (!isSystem(system)) {
            return Check.UNKNOWN;
        }
        Numbers numbers = systems[system];
        switch (what) {
            case 0: return numbers.p;
            case 1: return numbers.q;
            case 2: return numbers.digits.size();
            case 3: return numbers.complete() ? 1 : 0;
            case 4:
                int greatest = 0;
                for (int digit : numbers.digits) {
                    greatest = Math.max(greatest, Math.abs(digit));
                }
                return greatest;
            default: return Check.BAD_VALUE;
        }
    }

    // Answers 0 if there is no fault.
    private int expansionFault(int system, int m, int n, int place) {
        if (!isSystem(system)) {
            return Check.UNKNOWN;
        }
        if (!isInteger(m) || n < 1 || n > 60 || place < 0 || place > 1000000000) {
            return Check.BAD_VALUE;
        }
        if (!systems[system].complete()) {
            return Check.INCOMPLETE;
        }
        for (int d = 2; d <= 10; d++) {
            if (n % d == 0 && systems[system].residues() % d == 0) {
                return Check.NOT_POSSIBLE;
            }
        }
        return 0;
    }

    /** All numerators up to the first one that occurs for the second time, that one included. */
    private List<Integer> numerators(int system, int m, int n) {
        List<Integer> list = new ArrayList<>();
        Map<Integer, Integer> places = new HashMap<>();
        int numerator = m;
        while (!places.containsKey(numerator)) {
            places.put(numerator, list.size());
            list.add(numerator);
            numerator = systems[system].step(numerator, n)[1];
        }
        list.add(numerator);
        return list;
    }

    private static int preperiodOf(List<Integer> numerators) {
        return numerators.indexOf(numerators.get(numerators.size() - 1));
    }

    private static int periodOf(List<Integer> numerators) {
        return numerators.size() - 1 - preperiodOf(numerators);
    }

    int numerator(int system, int m, int n, int place) {
        int fault = expansionFault(system, m, n, place);
        if (fault != 0) {
            return fault;
        }
        List<Integer> list = numerators(system, m, n);
        int i = place;
        while (i >= list.size()) {
            int tooMany = i - list.size() + 1;
            i -= Math.max(1, tooMany / periodOf(list)) * periodOf(list);
        }
        return list.get(i);
    }

    int digit(int system, int m, int n, int place) {
        int fault = expansionFault(system, m, n, place);
        return fault != 0 ? fault : systems[system].step(numerator(system, m, n, place), n)[0];
    }

    int preperiod(int system, int m, int n) {
        int fault = expansionFault(system, m, n, 0);
        return fault != 0 ? fault : preperiodOf(numerators(system, m, n));
    }

    int period(int system, int m, int n) {
        int fault = expansionFault(system, m, n, 0);
        return fault != 0 ? fault : periodOf(numerators(system, m, n));
    }

    int length(int system, int m, int n) {
        int fault = expansionFault(system, m, n, 0);
        if (fault != 0) {
            return fault;
        }
        int place = numerators(system, m, n).indexOf(0);
        return place < 0 || systems[system].step(0, n)[0] != 0 ? Check.NONE : place;
    }

    /** The cycles by their least elements. */
    private TreeMap<Integer, TreeSet<Integer>> cycles(int system) {
        TreeMap<Integer, TreeSet<Integer>> cycles = new TreeMap<>();
        for (int m = -70; m <= 70; m++) {
            TreeSet<Integer> cycle = cycleOf(system, m);
            cycles.put(cycle.first(), cycle);
        }
        return cycles;
    }

    private TreeSet<Integer> cycleOf(int system, int m) {
        List<Integer> list = numerators(system, m, 1);
        return new TreeSet<>(list.subList(preperiodOf(list), list.size()));
    }

    int cycleCount(int system) {
        if (!isSystem(system)) {
            return Check.UNKNOWN;
        }
        return systems[system].complete() ? cycles(system).size() : Check.INCOMPLETE;
    }

    int cycle(int system, int k, int what) {
        if (!isSystem(system)) {
            return Check.UNKNOWN;
        }
        if (k < 0 || what < 0 || what > 2) {
            return Check.BAD_VALUE;
        }
        if (!systems[system].complete()) {
            return Check.INCOMPLETE;
        }
        List<TreeSet<Integer>> cycles = new ArrayList<>(cycles(system).values());
        if (k >= cycles.size()) {
            return Check.NONE;
        }
        TreeSet<Integer> cycle = cycles.get(k);
        return what == 0 ? cycle.first() : what == 1 ? cycle.size() : cycle.last();
    }

    int leadsTo(int system, int m) {
        if (!isSystem(system)) {
            return Check.UNKNOWN;
        }
        if (!isInteger(m)) {
            return Check.BAD_VALUE;
        }
        if (!systems[system].complete()) {
            return Check.INCOMPLETE;
        }
        return cycles(system).headMap(cycleOf(system, m).first()).size();
    }

    int reachesAll(int system) {
        if (!isSystem(system)) {
            return Check.UNKNOWN;
        }
        if (!systems[system].complete()) {
            return Check.INCOMPLETE;
        }
        for (int m = -70; m <= 70; m++) {
            if (length(system, m, 1) == Check.NONE) {
                return 0;
            }
        }
        return 1;
    }

    private long rowsWith(int system, int m, int length, Map<Integer, Map<Integer, Long>> known) {
        if (length == 0) {
            return m == 0 ? 1 : 0;
        }
        Map<Integer, Long> knownHere = known.computeIfAbsent(length, i -> new HashMap<>());
        Long counted = knownHere.get(m);
        if (counted == null) {
            counted = 0L;
            Numbers numbers = systems[system];
            for (int digit : numbers.digits) {
                int rest = numbers.q * m - digit;
                if (rest % numbers.p == 0) {
                    counted += rowsWith(system, rest / numbers.p, length - 1, known);
                }
            }
            knownHere.put(m, counted);
        }
        return counted;
    }

    int expansions(int system, int m, int length) {
        if (!isSystem(system)) {
            return Check.UNKNOWN;
        }
        if (!isInteger(m) || length < 0 || length > 12) {
            return Check.BAD_VALUE;
        }
        return (int) Math.min(1000000, rowsWith(system, m, length, new HashMap<>()));
    }

    int expansionDigit(int system, int m, int length, int k, int entry) {
        boolean lengthFits = length >= 0 && length <= 12;
        if (!isSystem(system) || lengthFits && (entry < 0 || entry >= length)) {
            return Check.UNKNOWN;
        }
        if (!isInteger(m) || !lengthFits || k < 0 || k > 999999) {
            return Check.BAD_VALUE;
        }
        Map<Integer, Map<Integer, Long>> known = new HashMap<>();
        if (k >= rowsWith(system, m, length, known)) {
            return Check.NONE;
        }
        Numbers numbers = systems[system];
        int value = m;
        long rank = k;
        for (int i = 0; ; i++) {
            for (int digit : numbers.digits) {
                int rest = numbers.q * value - digit;
                if (rest % numbers.p != 0) {
                    continue;
                }
                long rows = rowsWith(system, rest / numbers.p, length - 1 - i, known);
                if (rank < rows) {
                    if (i == entry) {
                        return digit;
                    }
                    value = rest / numbers.p;
                    break;
                }
                rank -= rows;
            }
        }
    }

    int shortest(int system, int m) {
        if (!isSystem(system)) {
            return Check.UNKNOWN;
        }
        if (!isInteger(m)) {
            return Check.BAD_VALUE;
        }
        for (int length = 0; length <= 12; length++) {
            if (expansions(system, m, length) > 0) {
                return length;
            }
        }
        return Check.NONE;
    }

    int push(int row, int entry) {
        if (!isRow(row)) {
            return Check.UNKNOWN;
        }
        if (entry < -20 || entry > 20) {
            return Check.BAD_VALUE;
        }
        if (rows.get(row).size() == 12) {
            return Check.FULL;
        }
        rows.get(row).add(entry);
        return rows.get(row).size();
    }

    int clear(int row) {
        if (!isRow(row)) {
            return Check.UNKNOWN;
        }
        int had = rows.get(row).size();
        rows.get(row).clear();
        return had;
    }

    int size(int row) {
        return isRow(row) ? rows.get(row).size() : Check.UNKNOWN;
    }

    int entry(int row, int place) {
        if (!isRow(row) || place < 0 || place >= rows.get(row).size()) {
            return Check.UNKNOWN;
        }
        return rows.get(row).get(place);
    }

    /** The sum as the document writes it, with the denominator q^k: numerator, denominator. */
    private BigInteger[] fraction(int system, int row) {
        BigInteger p = BigInteger.valueOf(systems[system].p);
        BigInteger q = BigInteger.valueOf(systems[system].q);
        List<Integer> entries = rows.get(row);
        int k = entries.size();
        BigInteger sum = BigInteger.ZERO;
        for (int i = 0; i < k; i++) {
            sum = sum.add(BigInteger.valueOf(entries.get(i)).multiply(p.pow(i)).multiply(q.pow(k - 1 - i)));
        }
        BigInteger divisor = sum.gcd(q.pow(k));
        return new BigInteger[] {sum.divide(divisor), q.pow(k).divide(divisor)};
    }

    long value(int system, int row, boolean denominator) {
        if (!isSystem(system) || !isRow(row)) {
            return Check.NO_VALUE;
        }
        return fraction(system, row)[denominator ? 1 : 0].longValueExact();
    }

    int compare(int system, int row, int otherSystem, int otherRow) {
        if (!isSystem(system) || !isRow(row) || !isSystem(otherSystem) || !isRow(otherRow)) {
            return Check.UNKNOWN;
        }
        BigInteger[] one = fraction(system, row);
        BigInteger[] other = fraction(otherSystem, otherRow);
        return one[0].multiply(other[1]).compareTo(other[0].multiply(one[1])) + 1;
    }

    private int expand(int system, int m, int row) {
        int length = length(system, m, 1);
        if (length == Check.NONE) {
            return Check.NOT_POSSIBLE;
        }
        if (length > 12) {
            return Check.FULL;
        }
        List<Integer> entries = rows.get(row);
        entries.clear();
        for (int i = 0; i < length; i++) {
            entries.add(digit(system, m, 1, i));
        }
        return length;
    }

    int load(int system, int m, int row) {
        if (!isSystem(system) || !isRow(row)) {
            return Check.UNKNOWN;
        }
        if (!isInteger(m)) {
            return Check.BAD_VALUE;
        }
        return systems[system].complete() ? expand(system, m, row) : Check.INCOMPLETE;
    }

    private int computed(int system, List<Integer> sums, int target) {
        Numbers numbers = systems[system];
        List<Integer> computed = new ArrayList<>();
        int carry = 0;
        for (int i = 0; i < sums.size() || carry != 0 || numbers.chosenFor(0) != 0; i++) {
            if (i == 12) {
                return Check.FULL;
            }
            int total = (i < sums.size() ? sums.get(i) : 0) + numbers.q * carry;
            int digit = numbers.chosenFor(total);
            computed.add(digit);
            carry = (total - digit) / numbers.p;
        }
        while (!computed.isEmpty() && computed.get(computed.size() - 1) == 0) {
            computed.remove(computed.size() - 1);
        }
        rows.set(target, computed);
        return computed.size();
    }

    int add(int system, int row, int other, int target) {
        if (!isSystem(system) || !isRow(row) || !isRow(other) || !isRow(target)) {
            return Check.UNKNOWN;
        }
        if (!systems[system].complete()) {
            return Check.INCOMPLETE;
        }
        List<Integer> one = rows.get(row);
        List<Integer> two = rows.get(other);
        List<Integer> sums = new ArrayList<>();
        for (int i = 0; i < one.size() || i < two.size(); i++) {
            sums.add((i < one.size() ? one.get(i) : 0) + (i < two.size() ? two.get(i) : 0));
        }
        return computed(system, sums, target);
    }

    int multiply(int system, int row, int factor, int target) {
        if (!isSystem(system) || !isRow(row) || !isRow(target)) {
            return Check.UNKNOWN;
        }
        if (factor < -100 || factor > 100) {
            return Check.BAD_VALUE;
        }
        if (!systems[system].complete()) {
            return Check.INCOMPLETE;
        }
        List<Integer> sums = new ArrayList<>();
        for (int entry : rows.get(row)) {
            sums.add(entry * factor);
        }
        return computed(system, sums, target);
    }

    int convert(int system, int row, int target) {
        if (!isSystem(system) || !isRow(row) || !isRow(target)) {
            return Check.UNKNOWN;
        }
        int into = system == 0 ? 1 : 0;
        if (!systems[into].complete()) {
            return Check.INCOMPLETE;
        }
        BigInteger[] read = fraction(system, row);
        if (!read[1].equals(BigInteger.ONE) || read[0].abs().compareTo(BigInteger.valueOf(100000)) > 0) {
            return Check.NOT_POSSIBLE;
        }
        return expand(into, read[0].intValueExact(), target);
    }

    private int carryBehind(int system, int carry, int sum) {
        Numbers numbers = systems[system];
        int total = sum + numbers.q * carry;
        return (total - numbers.chosenFor(total)) / numbers.p;
    }

    int nextCarry(int system, int carry, int sum) {
        if (!isSystem(system)) {
            return Check.UNKNOWN;
        }
        if (carry < -10000 || carry > 10000 || sum < -2000 || sum > 2000) {
            return Check.BAD_VALUE;
        }
        return systems[system].complete() ? carryBehind(system, carry, sum) : Check.INCOMPLETE;
    }

    /** Adds the carries that the sums lead to from those in the set, until there are no new ones. */
    private void close(int system, TreeSet<Integer> carries, TreeSet<Integer> sums) {
        int before;
        do {
            before = carries.size();
            for (int carry : new ArrayList<>(carries)) {
                for (int sum : sums) {
                    carries.add(carryBehind(system, carry, sum));
                }
            }
        } while (carries.size() > before);
    }

    private List<Integer> carries(int system) {
        TreeSet<Integer> ones = new TreeSet<>(systems[system].digits);
        TreeSet<Integer> twos = new TreeSet<>();
        for (int one : ones) {
            for (int other : ones) {
                twos.add(one + other);
            }
        }
        TreeSet<Integer> carries = new TreeSet<>(List.of(0));
        close(system, carries, twos);
        close(system, carries, ones);
        close(system, carries, new TreeSet<>(List.of(0)));
        return new ArrayList<>(carries);
    }

    int carryCount(int system) {
        if (!isSystem(system)) {
            return Check.UNKNOWN;
        }
        return systems[system].complete() ? carries(system).size() : Check.INCOMPLETE;
    }

    int carry(int system, int k) {
        if (!isSystem(system)) {
            return Check.UNKNOWN;
        }
        if (k < 0) {
            return Check.BAD_VALUE;
        }
        if (!systems[system].complete()) {
            return Check.INCOMPLETE;
        }
        List<Integer> carries = carries(system);
        return k < carries.size() ? carries.get(k) : Check.NONE;
    }
}

/** Compares the class with the model in many runs of calls, each on new objects. */
public final class ModelTest {
    private static final int RUNS = 600;
    /** With those that compare the states, below the 512 that an object answers. */
    private static final int CALLS = 440;

    private static final String[] NAMES = {
        "setBase", "addDigit", "removeDigit", "choose", "digitAt", "chosen", "system", "digit",
        "numerator", "preperiod", "period", "length", "cycleCount", "cycle", "leadsTo", "reachesAll",
        "expansions", "expansionDigit", "shortest", "push", "clear", "size", "entry", "value", "compare",
        "load", "add", "multiply", "convert", "nextCarry", "carryCount", "carry"};
    /** Calls that lead to new states, and push above all, come more often than the others. */
    private static final int[] OFTEN = {1, 1, 2, 3, 3, 3, 19, 19, 19, 19, 24, 24, 25, 25, 26, 26, 27, 27, 28, 28};
    private static final int[] CLOSE = {0, 1, -1, 2, -2, 20, -20, 21, -21};
    private static final int[] EDGES = {Integer.MIN_VALUE, Integer.MAX_VALUE, -1, 0, 60, 61, 100000, -100000, 100001,
        -100001, 1000000000, 1000000001, 999999, 1000000, 12, 13, 10000, 10001, -10001, 2000, 2001, -2001, 100, 101, -101};

    private long seed = 20261119;

    private int below(int bound) {
        seed = seed * 6364136223846793005L + 1442695040888963407L;
        return (int) ((seed >>> 33) % bound);
    }

    private int from(int least, int greatest) {
        return least + below(greatest - least + 1);
    }

    private int place(int greatest) {
        return below(40) == 0 ? edge() : from(0, greatest);
    }

    private int edge() {
        return EDGES[below(EDGES.length)];
    }

    private int system() {
        return below(60) == 0 ? edge() : below(80) == 0 ? 2 : below(2);
    }

    private int row() {
        return below(60) == 0 ? edge() : below(80) == 0 ? 3 : below(3);
    }

    private int integer() {
        switch (below(20)) {
            case 0: return edge();
            case 1: case 2: case 3: case 4: case 5: return from(-100000, 100000);
            case 6: case 7: case 8: case 9: return CLOSE[below(CLOSE.length)];
            default: return from(-200, 200);
        }
    }

    private int digit() {
        return below(30) == 0 ? edge() : below(10) == 0 ? from(-22, 22) : from(-12, 12);
    }

    private int position() {
        return below(3) == 0 ? from(0, 1000000000) : place(30);
    }

    private int size() {
        return below(40) == 0 ? edge() : below(2) == 0 ? from(8, 12) : from(-1, 13);
    }

    private int number() {
        return below(3) == 0 ? from(0, 3) : below(2) == 0 ? from(0, 500) : place(1000000);
    }

    private int[] arguments(int call) {
        switch (call) {
            case 0: return new int[] {system(), below(20) == 0 ? edge() : from(-11, 11), below(20) == 0 ? edge() : from(0, 10)};
            case 1: case 2: case 3: return new int[] {system(), digit()};
            case 4: return new int[] {system(), place(12)};
            case 5: return new int[] {system(), place(10)};
            case 6: return new int[] {system(), from(-1, 5)};
            case 7: case 8: return new int[] {system(), integer(), below(4) == 0 ? 1 : place(61), position()};
            case 9: case 10: case 11: return new int[] {system(), integer(), below(3) == 0 ? 1 : place(61)};
            case 12: case 15: case 30: return new int[] {system()};
            case 13: return new int[] {system(), place(3), below(10) == 0 ? edge() : from(0, 2)};
            case 14: case 18: return new int[] {system(), integer()};
            case 16: return new int[] {system(), integer(), size()};
            case 17: return new int[] {system(), integer(), size(), number(), place(12)};
            case 19: return new int[] {row(), digit()};
            case 20: case 21: return new int[] {row()};
            case 22: return new int[] {row(), place(12)};
            case 23: return new int[] {system(), row(), below(2)};
            case 24: return new int[] {system(), row(), system(), row()};
            case 25: return new int[] {system(), integer(), row()};
            case 26: return new int[] {system(), row(), row(), row()};
            case 27: return new int[] {system(), row(), below(20) == 0 ? edge() : from(-12, 12), row()};
            case 28: return new int[] {system(), row(), row()};
            case 29: return new int[] {system(), below(30) == 0 ? edge() : from(-10000, 10000), below(30) == 0 ? edge() : from(-2000, 2000)};
            default: return new int[] {system(), place(12)};
        }
    }

    private void compareStates(int run, int number, NumerationSystems x, Model model) {
        for (int row = 0; row < 3; row++) {
            Check.due("run " + run + " behind call " + number + ": size(" + row + ")", model.size(row), x.size(row));
            for (int i = 0; i < model.size(row); i++) {
                Check.due("run " + run + " behind call " + number + ": entry(" + row + ", " + i + ")",
                        model.entry(row, i), x.entry(row, i));
            }
        }
        for (int system = 0; system < 2; system++) {
            for (int i = 0; i < 13; i++) {
                Check.due("run " + run + " behind call " + number + ": digitAt(" + system + ", " + i + ")",
                        model.digitAt(system, i), x.digitAt(system, i));
            }
        }
    }

    private void run(int run) {
        NumerationSystems x = new NumerationSystems();
        Model model = new Model();
        for (int number = 0; number < CALLS; number++) {
            int call = below(3) == 0 ? OFTEN[below(OFTEN.length)] : below(NAMES.length);
            // A base is kept for a while, so that its list of digits grows apart from the first one.
            if (call == 0 && below(4) != 0) {
                call = 19;
            }
            int[] arguments = number < 2 ? new int[] {number, from(-10, 10), from(1, 9)} : arguments(call);
            call = number < 2 ? 0 : call;
            Call made = new Call(NAMES[call], arguments);
            Check.due("run " + run + ", call " + number + ": " + made, made.on(model), made.on(x));
        }
        compareStates(run, CALLS, x, model);
    }

    public static void main(String[] args) {
        ModelTest test = new ModelTest();
        for (int run = 0; run < RUNS; run++) {
            test.run(run);
        }
        Check.finish("ModelTest");
    }
}

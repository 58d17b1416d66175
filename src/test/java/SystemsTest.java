/** Promises 1 to 8: the systems and their digits. */
public final class SystemsTest {
    private static final int[] WRONG = {-1, 2, 3, Integer.MIN_VALUE, Integer.MAX_VALUE};

    private static void newObject() {
        NumerationSystems x = new NumerationSystems();
        for (int system = 0; system < 2; system++) {
            Check.due("new: p", 10, x.system(system, 0));
            Check.due("new: q", 1, x.system(system, 1));
            Check.dueList("new", x, system, 0, 1, 2, 3, 4, 5, 6, 7, 8, 9);
        }
        for (int row = 0; row < 3; row++) {
            Check.due("new: size", 0, x.size(row));
        }
        Check.due("new: load", 3, x.load(1, 120, 2));
        Check.dueRow("new: load", x, 2, 0, 2, 1);
    }

    private static int commonDivisor(int a, int b) {
        return b == 0 ? a : commonDivisor(b, a % b);
    }

    private static void setBase() {
        NumerationSystems x = new NumerationSystems();
        int bases = 0;
        for (int p = -11; p <= 11; p++) {
            for (int q = -1; q <= 11; q++) {
                int size = Math.abs(p);
                boolean isBase = size >= 2 && size <= 10 && q >= 1 && q < size && commonDivisor(size, q) == 1;
                bases += isBase ? 1 : 0;
                Check.due("setBase(0, " + p + ", " + q + ")", isBase ? size : Check.BAD_VALUE, x.setBase(0, p, q));
            }
        }
        Check.due("the number of bases", 62, bases);
        x = new NumerationSystems();
        x.choose(1, 4);
        x.removeDigit(1, 9);
        Check.due("setBase(1, -3, 2)", 3, x.setBase(1, -3, 2));
        Check.dueList("setBase", x, 1, 0, 1, 2);
        Check.dueList("the other system", x, 0, 0, 1, 2, 3, 4, 5, 6, 7, 8, 9);
        x.addDigit(1, -1);
        Check.due("the same base again", 3, x.setBase(1, -3, 2));
        Check.dueList("the same base again", x, 1, 0, 1, 2);
        Check.due("chosen behind setBase", 2, x.chosen(1, 2));
        x.push(0, 5);
        x.setBase(0, 2, 1);
        Check.due("setBase leaves rows", 1, x.size(0));
        for (int wrong : WRONG) {
            Check.due("setBase: no system", Check.UNKNOWN, x.setBase(wrong, 10, 1));
            Check.due("setBase: no system, no base", Check.UNKNOWN, x.setBase(wrong, 0, 0));
        }
        int[][] noBases = {{0, 1}, {1, 1}, {-1, 1}, {2, 2}, {2, 0}, {2, -1}, {4, 2}, {-6, 4}, {9, 3}, {10, 5}, {-10, 10},
            {3, 4}, {11, 10}, {-11, 2}, {Integer.MIN_VALUE, 1}, {Integer.MAX_VALUE, 1}, {3, Integer.MIN_VALUE}, {3, Integer.MAX_VALUE}};
        for (int[] noBase : noBases) {
            Check.due("setBase(1, " + noBase[0] + ", " + noBase[1] + ")", Check.BAD_VALUE, x.setBase(1, noBase[0], noBase[1]));
        }
        Check.due("p behind errors", -3, x.system(1, 0));
        Check.due("q behind errors", 2, x.system(1, 1));
        Check.dueList("behind errors", x, 1, 0, 1, 2);
    }

    private static void addDigit() {
        NumerationSystems x = new NumerationSystems();
        Check.due("addDigit(0, -20)", 11, x.addDigit(0, -20));
        Check.due("addDigit(0, 20)", 12, x.addDigit(0, 20));
        Check.dueList("addDigit", x, 0, 0, 1, 2, 3, 4, 5, 6, 7, 8, 9, -20, 20);
        Check.due("full", Check.FULL, x.addDigit(0, 15));
        Check.due("full, but in the list", Check.NOT_POSSIBLE, x.addDigit(0, 20));
        Check.due("full, but out of range", Check.BAD_VALUE, x.addDigit(0, 21));
        for (int digit : new int[] {-21, 21, Integer.MIN_VALUE, Integer.MAX_VALUE}) {
            Check.due("addDigit(1, " + digit + ")", Check.BAD_VALUE, x.addDigit(1, digit));
        }
        for (int digit = 0; digit < 10; digit++) {
            Check.due("addDigit(1, " + digit + ")", Check.NOT_POSSIBLE, x.addDigit(1, digit));
        }
        for (int wrong : WRONG) {
            Check.due("addDigit: no system", Check.UNKNOWN, x.addDigit(wrong, 11));
            Check.due("addDigit: no system, no digit", Check.UNKNOWN, x.addDigit(wrong, 21));
        }
        Check.dueList("addDigit: errors change nothing", x, 0, 0, 1, 2, 3, 4, 5, 6, 7, 8, 9, -20, 20);
        Check.dueList("addDigit: errors change nothing", x, 1, 0, 1, 2, 3, 4, 5, 6, 7, 8, 9);
        x.removeDigit(1, 3);
        Check.due("addDigit of a removed one", 10, x.addDigit(1, 3));
        Check.dueList("addDigit of a removed one", x, 1, 0, 1, 2, 4, 5, 6, 7, 8, 9, 3);
    }

    private static void removeDigit() {
        NumerationSystems x = new NumerationSystems();
        Check.due("removeDigit(0, 0)", 9, x.removeDigit(0, 0));
        Check.due("removeDigit(0, 9)", 8, x.removeDigit(0, 9));
        Check.due("removeDigit(0, 4)", 7, x.removeDigit(0, 4));
        Check.dueList("removeDigit", x, 0, 1, 2, 3, 5, 6, 7, 8);
        for (int digit : new int[] {0, 4, 9, 10, -1, 21, Integer.MIN_VALUE, Integer.MAX_VALUE}) {
            Check.due("removeDigit(0, " + digit + ")", Check.NOT_POSSIBLE, x.removeDigit(0, digit));
        }
        for (int wrong : WRONG) {
            Check.due("removeDigit: no system", Check.UNKNOWN, x.removeDigit(wrong, 1));
            Check.due("removeDigit: no system, no digit", Check.UNKNOWN, x.removeDigit(wrong, 30));
        }
        Check.dueList("removeDigit: errors change nothing", x, 0, 1, 2, 3, 5, 6, 7, 8);
        for (int digit : new int[] {1, 2, 3, 5, 6, 7, 8}) {
            x.removeDigit(0, digit);
        }
        Check.dueList("all removed", x, 0);
        Check.due("removeDigit without digits", Check.NOT_POSSIBLE, x.removeDigit(0, 1));
        Check.due("addDigit without digits", 1, x.addDigit(0, 7));
        Check.dueList("the other system", x, 1, 0, 1, 2, 3, 4, 5, 6, 7, 8, 9);
        // Twelve digits, so that the list moves up from its very end.
        x.addDigit(1, 10);
        x.addDigit(1, -10);
        Check.due("removeDigit of twelve", 11, x.removeDigit(1, 0));
        Check.dueList("removeDigit of twelve", x, 1, 1, 2, 3, 4, 5, 6, 7, 8, 9, 10, -10);
        Check.due("chosen behind removeDigit", 10, x.chosen(1, 0));
    }

    private static void choose() {
        NumerationSystems x = new NumerationSystems();
        x.setBase(0, 3, 1);
        x.addDigit(0, -1);
        x.addDigit(0, 5);
        Check.due("choose(0, 5)", 4, x.choose(0, 5));
        Check.dueList("choose(0, 5)", x, 0, 5, 0, 1, 2, -1);
        Check.due("chosen(0, 2)", 5, x.chosen(0, 2));
        Check.due("choose(0, 2)", 3, x.choose(0, 2));
        Check.dueList("choose(0, 2)", x, 0, 2, 5, 0, 1, -1);
        Check.due("chosen(0, 2)", 2, x.chosen(0, 2));
        Check.due("choose(0, 2) once more", 0, x.choose(0, 2));
        Check.dueList("choose(0, 2) once more", x, 0, 2, 5, 0, 1, -1);
        for (int digit : new int[] {3, -2, 21, Integer.MIN_VALUE, Integer.MAX_VALUE}) {
            Check.due("choose(0, " + digit + ")", Check.NOT_POSSIBLE, x.choose(0, digit));
        }
        for (int wrong : WRONG) {
            Check.due("choose: no system", Check.UNKNOWN, x.choose(wrong, 2));
            Check.due("choose: no system, no digit", Check.UNKNOWN, x.choose(wrong, 30));
        }
        Check.dueList("choose: errors change nothing", x, 0, 2, 5, 0, 1, -1);
        x.addDigit(1, 19);
        x.addDigit(1, -1);
        Check.due("choose the last of twelve", 11, x.choose(1, -1));
        Check.dueList("choose the last of twelve", x, 1, -1, 0, 1, 2, 3, 4, 5, 6, 7, 8, 9, 19);
        Check.due("chosen(1, 9)", -1, x.chosen(1, 9));
    }

    private static void digitAt() {
        NumerationSystems x = new NumerationSystems();
        x.setBase(1, -4, 3);
        x.addDigit(1, -7);
        Check.due("digitAt(1, 0)", 0, x.digitAt(1, 0));
        Check.due("digitAt(1, 4)", -7, x.digitAt(1, 4));
        for (int place : new int[] {5, -1, 12, Integer.MIN_VALUE, Integer.MAX_VALUE}) {
            Check.due("digitAt(1, " + place + ")", Check.UNKNOWN, x.digitAt(1, place));
        }
        for (int wrong : WRONG) {
            Check.due("digitAt: no system", Check.UNKNOWN, x.digitAt(wrong, 0));
        }
    }

    private static void chosen() {
        NumerationSystems x = new NumerationSystems();
        x.setBase(0, -3, 1);
        Check.giveDigits(x, 0, 4, -2, 7, -17);
        Check.due("chosen(0, 1)", 4, x.chosen(0, 1));
        Check.due("chosen(0, 0)", Check.NONE, x.chosen(0, 0));
        Check.due("chosen(0, 2)", Check.NONE, x.chosen(0, 2));
        x.addDigit(0, -1);
        Check.due("chosen(0, 2)", -1, x.chosen(0, 2));
        x.removeDigit(0, 4);
        Check.due("chosen(0, 1)", -2, x.chosen(0, 1));
        for (int residue : new int[] {-1, 3, 10, Integer.MIN_VALUE, Integer.MAX_VALUE}) {
            Check.due("chosen(0, " + residue + ")", Check.BAD_VALUE, x.chosen(0, residue));
        }
        Check.due("chosen(1, 9)", 9, x.chosen(1, 9));
        for (int wrong : WRONG) {
            Check.due("chosen: no system", Check.UNKNOWN, x.chosen(wrong, 0));
            Check.due("chosen: no system, no residue", Check.UNKNOWN, x.chosen(wrong, -1));
        }
    }

    private static void system() {
        NumerationSystems x = new NumerationSystems();
        x.setBase(1, -7, 5);
        x.addDigit(1, -11);
        int[] due = {-7, 5, 8, 1, 11};
        for (int what = 0; what < due.length; what++) {
            Check.due("system(1, " + what + ")", due[what], x.system(1, what));
        }
        x.removeDigit(1, 3);
        Check.due("still complete by -11", 1, x.system(1, 3));
        x.removeDigit(1, 2);
        Check.due("complete", 0, x.system(1, 3));
        x.addDigit(1, -12);
        Check.due("complete by -12", 1, x.system(1, 3));
        Check.due("greatest absolute value", 12, x.system(1, 4));
        Check.giveDigits(x, 1);
        Check.due("without digits: number", 0, x.system(1, 2));
        Check.due("without digits: complete", 0, x.system(1, 3));
        Check.due("without digits: greatest absolute value", 0, x.system(1, 4));
        Check.due("without digits: chosen", Check.NONE, x.chosen(1, 0));
        for (int what : new int[] {-1, 5, Integer.MIN_VALUE, Integer.MAX_VALUE}) {
            Check.due("system(1, " + what + ")", Check.BAD_VALUE, x.system(1, what));
            Check.due("system(2, " + what + ")", Check.UNKNOWN, x.system(2, what));
        }
        for (int wrong : WRONG) {
            Check.due("system: no system", Check.UNKNOWN, x.system(wrong, 0));
        }
    }

    public static void main(String[] args) {
        newObject();
        setBase();
        addDigit();
        removeDigit();
        choose();
        digitAt();
        chosen();
        system();
        Check.finish("SystemsTest");
    }
}

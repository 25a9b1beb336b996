/** Promises 11 to 14: error, sky, phase, closure. */
public final class PhaseTest {
    private static final int MIN = Integer.MIN_VALUE, MAX = Integer.MAX_VALUE;
    private static final int[] WRONG_PHASES = {-1, 360, MIN, MAX};

    public static void main(String[] args) {
        error();
        sky();
        phase();
        closure();
        errorsDoNotShowRoundThree();
        Check.end();
    }

    private static void error() {
        SparseDishes x = Check.dishesAt(0, 60);
        Check.due("error(0, 359)", x.error(0, 359), 0);
        Check.due("error(0, 0)", x.error(0, 0), 359);
        Check.due("error(0, 7)", x.error(0, 7), 0);
        Check.due("error(60, 8)", x.error(60, 8), 0);
        Check.due("told(100)", x.told(100), 7);
        Check.due("told(160)", x.told(160), 8);
        Check.due("told(0)", x.told(0), 6);
        Check.due("told(6)", x.told(6), 4);
        int[] unknown = {1, 59, -1, 61, 64, MIN, MAX};
        for (int s : unknown) {
            Check.due("error(" + s + ", 1)", x.error(s, 1), SparseDishes.UNKNOWN);
            Check.due("error(" + s + ", 360): UNKNOWN comes first", x.error(s, 360), SparseDishes.UNKNOWN);
        }
        for (int p : WRONG_PHASES) Check.due("error(0, " + p + ")", x.error(0, p), SparseDishes.OUTSIDE);
        Check.due("told(100)", x.told(100), 7);
        Check.due("told(0): refused ones are not logged", x.told(0), 6);
        Check.due("told(6): refused ones are not counted", x.told(6), 4);
    }

    private static void sky() {
        SparseDishes x = new SparseDishes();
        for (int d = 1; d <= 60; d++) Check.due("sky(" + d + ", " + 5 * d + ")", x.sky(d, 5 * d), 0);
        for (int d = 1; d <= 60; d++) Check.due("sky(" + d + ", 359)", x.sky(d, 359), 5 * d);
        for (int d = 1; d <= 60; d++) Check.due("told(200 + " + d + ")", x.told(200 + d), 359);
        Check.due("told(6)", x.told(6), 120);
        Check.due("told(0): a SKY is not logged", x.told(0), 0);
        Check.due("undo()", x.undo(), SparseDishes.NO);
        int[] outside = {0, -1, 61, 64, MIN, MAX};
        for (int d : outside) Check.due("sky(" + d + ", 0)", x.sky(d, 0), SparseDishes.OUTSIDE);
        for (int p : WRONG_PHASES) Check.due("sky(1, " + p + ")", x.sky(1, p), SparseDishes.OUTSIDE);
        Check.due("told(201)", x.told(201), 359);
        Check.due("told(6)", x.told(6), 120);
    }

    private static void phase() {
        SparseDishes x = Check.dishesAt(60, 0, 10);
        Check.due("phase(0, 60): nothing told", x.phase(0, 60), 0);
        Check.due("phase(60, 0): 0 taken off 0", x.phase(60, 0), 0);
        x.sky(60, 100);
        Check.due("phase(0, 60)", x.phase(0, 60), 100);
        Check.due("phase(60, 0)", x.phase(60, 0), 260);
        x.error(60, 359);
        Check.due("phase(0, 60)", x.phase(0, 60), 99);
        x.error(0, 100);
        Check.due("phase(0, 60)", x.phase(0, 60), 359);
        Check.due("phase(60, 0)", x.phase(60, 0), 1);
        x.error(0, 359);
        x.error(10, 0);
        Check.due("phase(0, 10)", x.phase(0, 10), 1);
        Check.due("phase(10, 0)", x.phase(10, 0), 359);
        Check.due("phase(10, 60)", x.phase(10, 60), 359);
        Check.due("phase(0, 0)", x.phase(0, 0), SparseDishes.NO);
        int[] unknown = {1, -1, 61, 64, MIN, MAX};
        for (int s : unknown) {
            Check.due("phase(0, " + s + ")", x.phase(0, s), SparseDishes.UNKNOWN);
            Check.due("phase(" + s + ", 0)", x.phase(s, 0), SparseDishes.UNKNOWN);
            Check.due("phase(" + s + ", " + s + "): UNKNOWN comes first", x.phase(s, s), SparseDishes.UNKNOWN);
        }
        x.lift(10);
        Check.due("phase(0, 10): gone", x.phase(0, 10), SparseDishes.UNKNOWN);
    }

    private static void closure() {
        SparseDishes x = Check.dishesAt(5, 8, 15);
        x.sky(3, 10);
        x.sky(7, 20);
        x.sky(10, 300);
        Check.due("closure(5, 8, 15)", x.closure(5, 8, 15), 90);
        Check.due("closure(8, 15, 5)", x.closure(8, 15, 5), 90);
        Check.due("closure(15, 5, 8)", x.closure(15, 5, 8), 90);
        Check.due("closure(15, 8, 5)", x.closure(15, 8, 5), 270);
        Check.due("closure(8, 5, 15)", x.closure(8, 5, 15), 270);
        Check.due("closure(5, 5, 8)", x.closure(5, 5, 8), SparseDishes.NO);
        Check.due("closure(5, 8, 8)", x.closure(5, 8, 8), SparseDishes.NO);
        Check.due("closure(5, 8, 5)", x.closure(5, 8, 5), SparseDishes.NO);
        int[] unknown = {6, -1, 61, 72, MIN, MAX};
        for (int s : unknown) {
            Check.due("closure(" + s + ", 8, 15)", x.closure(s, 8, 15), SparseDishes.UNKNOWN);
            Check.due("closure(5, " + s + ", 15)", x.closure(5, s, 15), SparseDishes.UNKNOWN);
            Check.due("closure(5, 8, " + s + ")", x.closure(5, 8, s), SparseDishes.UNKNOWN);
            Check.due("closure(5, 5, " + s + "): UNKNOWN comes first", x.closure(5, 5, s), SparseDishes.UNKNOWN);
        }
    }

    private static void errorsDoNotShowRoundThree() {
        SparseDishes x = Check.dishesAt(0, 1, 60);
        x.sky(1, 359);
        x.sky(59, 359);
        x.sky(60, 1);
        for (int e = 0; e < 360; e += 17) {
            x.error(0, e);
            x.error(1, (7 * e + 3) % 360);
            x.error(60, 359 - e);
            Check.due("closure(0, 1, 60) with " + e, x.closure(0, 1, 60), 357);
            Check.due("closure(60, 1, 0) with " + e, x.closure(60, 1, 0), 3);
        }
    }
}

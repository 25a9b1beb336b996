/** Promise 14: closure. */
public final class Promise14ClosureTest {
    public static void main(String[] args) {
        Check.run(Promise14ClosureTest.class);
    }

    static void theClosureOfThree() {
        Check.sentence("Promise 14", "CLOSURE.");
        SparseDishes x = Check.dishesAt(0, 1, 60);
        Check.due("nothing told: closure(0, 1, 60)", x.closure(0, 1, 60), 0);
        x.sky(1, 100);
        x.sky(59, 200);
        x.sky(60, 50);
        x.error(1, 77);
        Check.due("closure(0, 1, 60)", x.closure(0, 1, 60), 250);
        Check.due("closure(1, 60, 0)", x.closure(1, 60, 0), 250);
        Check.due("closure(60, 0, 1)", x.closure(60, 0, 1), 250);
        Check.due("closure(60, 1, 0)", x.closure(60, 1, 0), 110);
        Check.due("closure(1, 0, 60)", x.closure(1, 0, 60), 110);
        Check.due("closure(0, 60, 1)", x.closure(0, 60, 1), 110);
    }

    static void ofEquallyFarOnesTheSkyIsTakenTwice() {
        Check.sentence("Promise 14", "CLOSURE.");
        SparseDishes x = Check.dishesAt(0, 30, 60);
        x.sky(30, 200);
        Check.due("closure(0, 30, 60)", x.closure(0, 30, 60), 40);
        x.sky(60, 41);
        Check.due("closure(0, 30, 60)", x.closure(0, 30, 60), 359);
    }

    static void allThreeMustStand() {
        Check.sentence("Promise 14", "UNKNOWN: all three;");
        SparseDishes x = Check.dishesAt(5, 8, 15);
        for (int s : new int[] {6, 0, 60, -1, 61, 69, 72, 79, Check.MIN, Check.MAX}) {
            Check.due("closure(" + s + ", 8, 15)", x.closure(s, 8, 15), Check.UNKNOWN);
            Check.due("closure(5, " + s + ", 15)", x.closure(5, s, 15), Check.UNKNOWN);
            Check.due("closure(5, 8, " + s + ")", x.closure(5, 8, s), Check.UNKNOWN);
            Check.due("closure(" + s + ", 8, 8), two are one, too", x.closure(s, 8, 8), Check.UNKNOWN);
            Check.due("closure(8, " + s + ", 8), two are one, too", x.closure(8, s, 8), Check.UNKNOWN);
            Check.due("closure(8, 8, " + s + "), two are one, too", x.closure(8, 8, s), Check.UNKNOWN);
        }
        x.lift(15);
        Check.due("gone: closure(5, 8, 15)", x.closure(5, 8, 15), Check.UNKNOWN);
    }

    static void noTwoMayBeOne() {
        Check.sentence("Promise 14", "NO: two of them are one.");
        SparseDishes x = Check.dishesAt(5, 8, 15);
        Check.due("closure(5, 5, 8)", x.closure(5, 5, 8), Check.NO);
        Check.due("closure(5, 8, 8)", x.closure(5, 8, 8), Check.NO);
        Check.due("closure(5, 8, 5)", x.closure(5, 8, 5), Check.NO);
        Check.due("closure(5, 5, 5), all three", x.closure(5, 5, 5), Check.NO);
    }
}

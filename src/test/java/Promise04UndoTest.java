/** Promise 4: undo. */
public final class Promise04UndoTest {
    private static final String BACK = "What was logged last is taken back:";

    public static void main(String[] args) {
        Check.run(Promise04UndoTest.class);
    }

    static void aDishThatCameIsGone() {
        Check.sentence("Promise 4", BACK);
        SparseDishes x = Check.dishesAt(0, 60, 30);
        Check.due("undo()", x.undo(), 2);
        Check.stations("30 is gone", x, 0, 60);
        Check.due("told(130)", x.told(130), Check.NONE);
        Check.due("undo()", x.undo(), 1);
        Check.stations("60 is gone", x, 0);
        Check.due("undo()", x.undo(), 0);
        Check.stations("0 is gone", x);
    }

    static void aDishThatWentIsThereWithItsError() {
        Check.sentence("Promise 4", BACK);
        SparseDishes x = Check.dishesAt(0, 60);
        x.error(60, 359);
        x.lift(60);
        x.lift(0);
        Check.due("undo()", x.undo(), 4);
        Check.stations("0 is there", x, 0);
        Check.due("told(100)", x.told(100), 0);
        Check.due("undo()", x.undo(), 3);
        Check.stations("60 is there", x, 0, 60);
        Check.due("told(160)", x.told(160), 359);
    }

    static void anErrorIsWhatItWas() {
        Check.sentence("Promise 4", BACK);
        SparseDishes x = Check.dishesAt(0, 60);
        x.error(60, 100);
        x.error(0, 1);
        x.error(60, 200);
        x.undo();
        Check.due("told(160)", x.told(160), 100);
        Check.due("told(100)", x.told(100), 1);
        x.undo();
        Check.due("told(160)", x.told(160), 100);
        Check.due("told(100)", x.told(100), 0);
        x.undo();
        Check.due("told(160)", x.told(160), 0);
        Check.stations("both stand", x, 0, 60);
    }

    static void aDishThatCameAgainIsGoneAndThenThereAsItWas() {
        Check.sentence("Promise 4", BACK);
        SparseDishes x = Check.dishesAt(5);
        x.error(5, 77);
        x.lift(5);
        x.put(5);
        x.error(5, 88);
        x.undo();
        Check.due("told(105)", x.told(105), 0);
        x.undo();
        Check.due("told(105)", x.told(105), Check.NONE);
        x.undo();
        Check.due("told(105)", x.told(105), 77);
    }

    static void skiesAndCountsAreNotTakenBack() {
        Check.sentence("Promise 4", BACK);
        SparseDishes x = Check.dishesAt(3, 9);
        x.error(9, 50);
        x.sky(6, 12);
        x.undo();
        x.undo();
        Check.due("told(206)", x.told(206), 12);
        Check.due("told(6)", x.told(6), 2);
    }

    static void itAnswersHowManyAreInTheLogThen() {
        Check.sentence("Promise 4", "how many are in the LOG then.");
        SparseDishes x = Check.dishesAt(0);
        for (int e = 1; e <= 30; e++) x.error(0, e);
        for (int left = 15; left >= 0; left--) {
            Check.due("undo()", x.undo(), left);
            Check.due("told(0)", x.told(0), left);
        }
    }

    static void itIsRefusedWhereTheLogIsEmpty() {
        Check.sentence("Promise 4", "NO: there is none.");
        SparseDishes x = new SparseDishes();
        Check.due("new: undo()", x.undo(), Check.NO);
        x.put(0);
        Check.due("undo()", x.undo(), 0);
        Check.due("all undone: undo()", x.undo(), Check.NO);
        x.image(0);
        x.put(1);
        x.stand(0, 2, 0);
        Check.due("behind stand: undo()", x.undo(), Check.NO);
        x.put(2);
        x.restore(0);
        Check.due("behind restore: undo()", x.undo(), Check.NO);
        Check.due("told(3): what was refused is not counted", x.told(3), 1);
    }
}

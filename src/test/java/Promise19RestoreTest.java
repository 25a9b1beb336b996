/** Promise 19: restore. */
public final class Promise19RestoreTest {
    private static final String AS_KEPT = "They are as they were when they were kept;";

    public static void main(String[] args) {
        Check.run(Promise19RestoreTest.class);
    }

    static void dishesErrorsAndSkiesAreAsTheyWere() {
        Check.sentence("Promise 19", AS_KEPT);
        SparseDishes x = Check.dishesAt(0, 60);
        x.error(60, 5);
        x.sky(60, 6);
        x.image(0);
        x.error(60, 7);
        x.sky(60, 8);
        x.sky(1, 9);
        x.lift(0);
        x.put(30);
        Check.due("restore(0)", x.restore(0), 1);
        Check.stations("restored", x, 0, 60);
        Check.due("told(100)", x.told(100), 0);
        Check.due("told(160)", x.told(160), 5);
        Check.due("told(130)", x.told(130), Check.NONE);
        Check.due("told(260)", x.told(260), 6);
        Check.due("told(201)", x.told(201), 0);
        Check.due("phase(0, 60)", x.phase(0, 60), 11);
    }

    static void whatComesBehindDoesNotTouchTheImage() {
        Check.sentence("Promise 19", AS_KEPT);
        SparseDishes x = Check.dishesAt(0, 60);
        x.error(60, 5);
        x.sky(60, 6);
        x.image(0);
        x.restore(0);
        x.error(60, 100);
        x.sky(60, 100);
        x.lift(0);
        Check.due("restore(0) a second time", x.restore(0), 1);
        Check.stations("restored", x, 0, 60);
        Check.due("told(160)", x.told(160), 5);
        Check.due("told(260)", x.told(260), 6);
    }

    static void twoImagesAreRestoredEachAsItWas() {
        Check.sentence("Promise 19", AS_KEPT);
        SparseDishes x = Check.dishesAt(0);
        x.error(0, 10);
        x.sky(1, 11);
        x.image(0);
        x.error(0, 20);
        x.sky(1, 21);
        x.put(1);
        x.image(1);
        for (int round = 0; round < 2; round++) {
            x.restore(0);
            Check.stations("image 0", x, 0);
            Check.due("told(100)", x.told(100), 10);
            Check.due("told(201)", x.told(201), 11);
            x.restore(1);
            Check.stations("image 1", x, 0, 1);
            Check.due("told(100)", x.told(100), 20);
            Check.due("told(201)", x.told(201), 21);
        }
    }

    static void searchesAndCountsStay() {
        Check.sentence("Promise 19", AS_KEPT);
        SparseDishes x = new SparseDishes();
        x.image(0);
        x.put(1);
        x.error(1, 1);
        x.undo();
        x.ruler(4, 0);
        x.cover(2, 0);
        x.restore(0);
        Check.stations("none", x);
        Check.row("told", x::told, 1, 2, 20, 1, 16, 4, 1);
    }

    static void theLogIsEmptyThen() {
        Check.sentence("Promise 19", "the LOG is empty then: 1.");
        SparseDishes x = Check.twelve();
        x.image(1);
        for (int e = 1; e <= 9; e++) x.error(0, e);
        Check.due("restore(1)", x.restore(1), 1);
        Check.due("told(0)", x.told(0), 0);
        Check.due("undo()", x.undo(), Check.NO);
        x.lift(55);
        Check.due("told(0): one went", x.told(0), 1);
        Check.due("undo()", x.undo(), 0);
        Check.due("undo()", x.undo(), Check.NO);
        Check.due("facts(0)", x.facts(0), 12);
    }

    static void whereNothingWasChangedTheLogIsEmptyToo() {
        Check.sentence("Promise 19", "the LOG is empty then: 1.");
        SparseDishes x = Check.dishesAt(0, 1);
        x.image(0);
        Check.due("restore(0)", x.restore(0), 1);
        Check.due("told(0)", x.told(0), 0);
        Check.due("restore(0) again", x.restore(0), 1);
        Check.stations("restored", x, 0, 1);
    }

    static void thereIsNoOtherImage() {
        Check.sentence("Promise 19", "OUTSIDE;");
        SparseDishes x = Check.dishesAt(0);
        x.image(0);
        x.image(1);
        x.put(1);
        Check.dueOfAll("restore", x::restore, Check.OUTSIDE,
            -1, 2, 3, 32, 33, 64, 256, Check.MIN, Check.MIN + 1, Check.MAX);
        Check.stations("nothing is restored", x, 0, 1);
        Check.due("told(0)", x.told(0), 2);
    }

    static void whatWasNotKeptIsNotRestored() {
        Check.sentence("Promise 19", "STATE: they were not.");
        SparseDishes x = Check.dishesAt(0);
        Check.due("restore(0)", x.restore(0), Check.STATE);
        Check.due("restore(1)", x.restore(1), Check.STATE);
        x.image(1);
        Check.due("1 was kept: restore(0)", x.restore(0), Check.STATE);
        Check.stations("nothing is restored", x, 0);
        Check.due("told(0)", x.told(0), 1);
        Check.due("restore(1)", x.restore(1), 1);
        Check.due("restore(0)", x.restore(0), Check.STATE);
    }
}

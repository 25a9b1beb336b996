/** Terms, part 1: the LOG. */
public final class Terms1LogTest {
    private static final String LOGGED = "LOG: each DISH that came, went, or whose ERROR was told";
    private static final String UNDONE = "undo() takes the last one back, which is not in it any more then.";

    public static void main(String[] args) {
        Check.run(Terms1LogTest.class);
    }

    static void whatCameWentOrWasToldIsLogged() {
        Check.sentence("Terms 1", LOGGED);
        SparseDishes x = new SparseDishes();
        Check.due("new: told(0)", x.told(0), 0);
        x.put(0);
        Check.due("a DISH came: told(0)", x.told(0), 1);
        x.error(0, 359);
        Check.due("an ERROR was told: told(0)", x.told(0), 2);
        x.lift(0);
        Check.due("a DISH went: told(0)", x.told(0), 3);
    }

    static void theSameAgainIsLogged() {
        Check.sentence("Terms 1", LOGGED + " (also the same again),");
        SparseDishes x = Check.dishesAt(0);
        x.error(0, 0);
        Check.due("0 where it is 0: told(0)", x.told(0), 2);
        x.error(0, 77);
        x.error(0, 77);
        Check.due("77 where it is 77: told(0)", x.told(0), 4);
        Check.due("undo()", x.undo(), 3);
        Check.due("told(100): still 77", x.told(100), 77);
        x.undo();
        Check.due("told(100)", x.told(100), 0);
    }

    static void nothingElseIsLogged() {
        Check.sentence("Terms 1", LOGGED);
        SparseDishes x = Check.dishesAt(0, 60);
        x.sky(60, 5);
        x.image(0);
        x.ruler(3, 0);
        x.cover(3, 0);
        x.left(0);
        x.missed(0);
        x.sure();
        x.phase(0, 60);
        x.told(100);
        Check.due("told(0)", x.told(0), 2);
    }

    static void whatIsRefusedIsNotLogged() {
        Check.sentence("Terms 1", LOGGED);
        SparseDishes x = Check.twelve();
        x.put(61);
        x.put(55);
        x.put(60);
        x.lift(60);
        x.error(60, 1);
        x.error(55, 360);
        x.stand(0, 7, 60);
        x.restore(0);
        Check.due("told(0)", x.told(0), 12);
    }

    static void sixteenAreInTheLogAtMost() {
        Check.sentence("Terms 1", "16 at most");
        SparseDishes x = Check.dishesAt(0);
        for (int logged = 2; logged <= 40; logged++) {
            x.error(0, logged);
            Check.due(logged + " were logged: told(0)", x.told(0), Math.min(16, logged));
        }
    }

    static void sixteenAreTakenBackAllOfThem() {
        Check.sentence("Terms 1", "16 at most");
        SparseDishes x = Check.dishesAt(0);
        for (int e = 1; e <= 15; e++) x.error(0, e);
        for (int left = 15; left >= 0; left--) Check.due("undo()", x.undo(), left);
        Check.stations("the first one is taken back, too", x);
        Check.due("undo()", x.undo(), Check.NO);
    }

    static void theSeventeenthMakesTheFirstForgotten() {
        Check.sentence("Terms 1", "16 at most (elder ones are forgotten);");
        SparseDishes x = Check.dishesAt(0);
        for (int e = 1; e <= 16; e++) x.error(0, e);
        for (int left = 15; left >= 0; left--) {
            Check.due("undo()", x.undo(), left);
            Check.due("told(100)", x.told(100), left);
        }
        Check.due("undo()", x.undo(), Check.NO);
        Check.stations("that it came is forgotten", x, 0);
        Check.due("told(3)", x.told(3), 16);
    }

    static void theLogGoesRoundManyTimes() {
        Check.sentence("Terms 1", "16 at most (elder ones are forgotten);");
        SparseDishes x = Check.dishesAt(0, 1, 2);
        for (int e = 1; e <= 100; e++) x.error(e % 3, e);
        for (int e = 100; e > 84; e--) {
            Check.due("told of " + e, x.told(100 + e % 3), e);
            Check.due("undo()", x.undo(), e - 85);
            Check.due("told of " + e + " undone", x.told(100 + e % 3), e - 3);
        }
        Check.due("undo()", x.undo(), Check.NO);
    }

    static void whatIsLoggedBehindAnUndoStandsInItsPlace() {
        Check.sentence("Terms 1", "16 at most (elder ones are forgotten);");
        SparseDishes x = Check.dishesAt(0);
        for (int e = 1; e <= 20; e++) x.error(0, e);
        for (int i = 0; i < 5; i++) x.undo();
        Check.due("told(0)", x.told(0), 11);
        for (int e = 101; e <= 105; e++) x.error(0, e);
        Check.due("told(0)", x.told(0), 16);
        for (int e = 104; e >= 101; e--) {
            x.undo();
            Check.due("told(100)", x.told(100), e);
        }
        for (int e = 15; e >= 4; e--) {
            x.undo();
            Check.due("told(100)", x.told(100), e);
        }
        Check.due("undo()", x.undo(), Check.NO);
    }

    static void undoTakesTheLastOneBackFirst() {
        Check.sentence("Terms 1", UNDONE);
        SparseDishes x = Check.dishesAt(0, 60);
        x.error(60, 9);
        x.lift(60);
        Check.due("undo()", x.undo(), 3);
        Check.stations("lift is taken back", x, 0, 60);
        Check.due("told(160)", x.told(160), 9);
        Check.due("undo()", x.undo(), 2);
        Check.due("error is taken back: told(160)", x.told(160), 0);
        Check.due("undo()", x.undo(), 1);
        Check.stations("put is taken back", x, 0);
    }

    static void whatWasTakenBackIsNotInTheLog() {
        Check.sentence("Terms 1", UNDONE);
        SparseDishes x = Check.dishesAt(0, 60);
        x.undo();
        Check.due("told(0)", x.told(0), 1);
        Check.due("undo()", x.undo(), 0);
        Check.due("told(0)", x.told(0), 0);
        Check.due("undo()", x.undo(), Check.NO);
        Check.due("put(1)", x.put(1), 1);
        Check.due("told(0)", x.told(0), 1);
    }
}

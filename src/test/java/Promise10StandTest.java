/** Promise 10: stand. */
public final class Promise10StandTest {
    private static final String RULER = "DISHES stand as the first RULER of n MARKS does (kind 0),";
    private static final String COVER = "as the first COVER of a length n (1),";
    private static final String MOVED = "moved on by so many;";
    private static final String GONE = "all that stood there are gone;";
    private static final String OUTSIDE_WORDS = "OUTSIDE: all three;";
    private static final String ABOVE = "NO: one would stand above 60 (its SEARCH is done, all the same).";

    public static void main(String[] args) {
        Check.run(Promise10StandTest.class);
    }

    static void asTheFirstRuler() {
        Check.sentence("Promise 10", RULER);
        int[][] due = {{0, 1}, {0, 1, 3}, {0, 1, 4, 6}, {0, 1, 4, 9, 11}, {0, 1, 4, 10, 12, 17},
            {0, 1, 4, 10, 18, 23, 25}};
        for (int n = 2; n <= 7; n++) {
            SparseDishes x = new SparseDishes();
            Check.due("stand(0, " + n + ", 0)", x.stand(0, n, 0), n);
            Check.stations("stand(0, " + n + ", 0)", x, due[n - 2]);
        }
    }

    static void asTheFirstCover() {
        Check.sentence("Promise 10", COVER);
        SparseDishes x = new SparseDishes();
        Check.due("stand(1, 1, 0)", x.stand(1, 1, 0), 2);
        Check.stations("stand(1, 1, 0)", x, 0, 1);
        Check.due("stand(1, 13, 0)", x.stand(1, 13, 0), 6);
        Check.stations("stand(1, 13, 0)", x, 0, 1, 2, 6, 10, 13);
        Check.due("stand(1, 20, 0)", x.stand(1, 20, 0), 8);
        Check.stations("stand(1, 20, 0)", x, 0, 1, 2, 3, 4, 10, 15, 20);
    }

    static void movedOnBy0AndBySoManyThatTheLastStandsAt60() {
        Check.sentence("Promise 10", MOVED);
        SparseDishes x = new SparseDishes();
        Check.due("stand(0, 4, 0)", x.stand(0, 4, 0), 4);
        Check.stations("stand(0, 4, 0)", x, 0, 1, 4, 6);
        Check.due("stand(0, 4, 1)", x.stand(0, 4, 1), 4);
        Check.stations("stand(0, 4, 1)", x, 1, 2, 5, 7);
        Check.due("stand(0, 4, 54)", x.stand(0, 4, 54), 4);
        Check.stations("stand(0, 4, 54)", x, 54, 55, 58, 60);
        Check.due("stand(0, 2, 59)", x.stand(0, 2, 59), 2);
        Check.stations("stand(0, 2, 59)", x, 59, 60);
        Check.due("stand(1, 20, 40)", x.stand(1, 20, 40), 8);
        Check.stations("stand(1, 20, 40)", x, 40, 41, 42, 43, 44, 50, 55, 60);
    }

    static void allThatStoodAreGone() {
        Check.sentence("Promise 10", GONE);
        SparseDishes x = Check.twelve();
        Check.due("stand(0, 3, 5)", x.stand(0, 3, 5), 3);
        Check.stations("stand(0, 3, 5)", x, 5, 6, 8);
        Check.due("told(100)", x.told(100), Check.NONE);
        Check.due("told(155)", x.told(155), Check.NONE);
    }

    static void theirErrorsAreGoneWithThem() {
        Check.sentence("Promise 10", GONE);
        SparseDishes x = Check.dishesAt(0, 1, 9);
        x.error(0, 10);
        x.error(1, 20);
        x.error(9, 30);
        x.stand(0, 3, 0);
        Check.due("told(100): it is another one", x.told(100), 0);
        Check.due("told(101): it is another one", x.told(101), 0);
        Check.due("told(103)", x.told(103), 0);
        Check.due("told(109)", x.told(109), Check.NONE);
    }

    static void skiesImagesAndCountsStay() {
        Check.sentence("Promise 10", GONE);
        SparseDishes x = Check.dishesAt(0, 1, 9);
        x.error(9, 30);
        x.sky(1, 40);
        x.image(1);
        x.put(10);
        x.undo();
        x.stand(0, 3, 0);
        Check.due("told(201)", x.told(201), 40);
        Check.due("told(3)", x.told(3), 1);
        Check.due("told(6)", x.told(6), 2);
        Check.due("restore(1)", x.restore(1), 1);
        Check.stations("restored", x, 0, 1, 9);
        Check.due("told(109)", x.told(109), 30);
    }

    static void theLogIsEmpty() {
        Check.sentence("Promise 10", "the LOG is empty:");
        SparseDishes x = Check.twelve();
        for (int e = 1; e <= 9; e++) x.error(0, e);
        x.stand(1, 6, 0);
        Check.due("told(0)", x.told(0), 0);
        Check.due("undo()", x.undo(), Check.NO);
        x.put(60);
        Check.due("told(0): one came", x.told(0), 1);
        Check.due("undo()", x.undo(), 0);
        Check.due("undo()", x.undo(), Check.NO);
        Check.stations("as it stood", x, 0, 1, 4, 6);
    }

    static void howManyThereAre() {
        Check.sentence("Promise 10", "how many there are.");
        SparseDishes x = Check.twelve();
        Check.due("stand(0, 2, 0)", x.stand(0, 2, 0), 2);
        Check.due("stand(0, 7, 0)", x.stand(0, 7, 0), 7);
        Check.due("stand(1, 1, 0)", x.stand(1, 1, 0), 2);
        Check.due("stand(1, 7, 0)", x.stand(1, 7, 0), 5);
        Check.due("stand(1, 20, 0)", x.stand(1, 20, 0), 8);
    }

    static void thereIsNoOtherKind() {
        Check.sentence("Promise 10", OUTSIDE_WORDS);
        SparseDishes x = Check.dishesAt(2, 4);
        Check.dueOfAll("stand(kind, 3, 0)", kind -> x.stand(kind, 3, 0), Check.OUTSIDE,
            -1, 2, 3, 32, 64, 256, Check.MIN, Check.MIN + 1, Check.MAX);
        nothingIsDone(x);
    }

    static void whatIsNotSearchedDoesNotStand() {
        Check.sentence("Promise 10", OUTSIDE_WORDS);
        SparseDishes x = Check.dishesAt(2, 4);
        Check.dueOfAll("stand(0, n, 0)", n -> x.stand(0, n, 0), Check.OUTSIDE,
            1, 8, 0, -1, 20, 34, Check.MIN, Check.MAX);
        Check.dueOfAll("stand(1, n, 0)", n -> x.stand(1, n, 0), Check.OUTSIDE,
            0, 21, -1, 33, 65, Check.MIN, Check.MAX);
        nothingIsDone(x);
        Check.due("8 is OUTSIDE by kind 0 alone: stand(1, 8, 0)", x.stand(1, 8, 0), 5);
    }

    static void byWhatIsNoStationNoneIsMovedOn() {
        Check.sentence("Promise 10", OUTSIDE_WORDS);
        SparseDishes x = Check.dishesAt(2, 4);
        Check.dueOfAll("stand(0, 3, by)", by -> x.stand(0, 3, by), Check.OUTSIDE, Check.NO_STATIONS);
        Check.dueOfAll("stand(1, 3, by)", by -> x.stand(1, 3, by), Check.OUTSIDE, Check.NO_STATIONS);
        nothingIsDone(x);
    }

    static void oneWouldStandAbove60() {
        Check.sentence("Promise 10", ABOVE);
        SparseDishes x = Check.dishesAt(2, 4);
        for (int n = 2; n <= 7; n++) {
            int by = 61 - x.ruler(n, 0);
            Check.due("stand(0, " + n + ", " + by + ")", x.stand(0, n, by), Check.NO);
            Check.due("stand(0, " + n + ", 60)", x.stand(0, n, 60), Check.NO);
        }
        for (int n = 1; n <= 20; n++) {
            Check.due("stand(1, " + n + ", " + (61 - n) + ")", x.stand(1, n, 61 - n), Check.NO);
            Check.due("stand(1, " + n + ", 60)", x.stand(1, n, 60), Check.NO);
        }
        Check.stations("the DISHES stay", x, 2, 4);
        Check.due("told(0): the LOG stays", x.told(0), 2);
        Check.due("undo()", x.undo(), 1);
    }

    static void whereOneWouldStandAbove60ItsSearchIsDone() {
        Check.sentence("Promise 10", ABOVE);
        SparseDishes x = Check.dishesAt(2, 4);
        Check.due("stand(0, 4, 55)", x.stand(0, 4, 55), Check.NO);
        Check.due("told(1)", x.told(1), 1);
        Check.due("told(2)", x.told(2), 19);
        Check.due("told(4)", x.told(4), 16);
        Check.due("stand(1, 6, 60)", x.stand(1, 6, 60), Check.NO);
        Check.due("told(1)", x.told(1), 2);
        Check.due("told(2)", x.told(2), 19 + 13);
        Check.due("told(5)", x.told(5), 64);
        Check.due("stand(0, 4, 55) again", x.stand(0, 4, 55), Check.NO);
        Check.due("told(1): it is known", x.told(1), 2);
    }

    private static void nothingIsDone(SparseDishes x) {
        Check.stations("nothing is changed", x, 2, 4);
        Check.due("told(0)", x.told(0), 2);
        Check.due("nothing is searched: told(1)", x.told(1), 0);
        Check.due("told(4)", x.told(4), 0);
        Check.due("told(5)", x.told(5), 0);
    }
}

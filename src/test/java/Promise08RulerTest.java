/** Promise 8: ruler. */
public final class Promise08RulerTest {
    private static final String MARKS = "the i-th MARK of the first one, by MARKS (10 and i; NONE).";
    private static final String OUTSIDE_WORDS = "OUTSIDE: both (3 to 9, less than 0).";
    private static final int[] LAST_MARKS = {1, 3, 6, 11, 17, 25};

    public static void main(String[] args) {
        Check.run(Promise08RulerTest.class);
    }

    static void theShortest() {
        Check.sentence("Promise 8", "RULERS of n MARKS: the SHORTEST (what = 0),");
        SparseDishes x = new SparseDishes();
        Check.row("ruler(n, 0): n =", n -> x.ruler(n, 0), 2, LAST_MARKS);
    }

    static void howManyThereAreOfIt() {
        Check.sentence("Promise 8", "how many there are of it (1),");
        SparseDishes x = new SparseDishes();
        Check.row("ruler(n, 1): n =", n -> x.ruler(n, 1), 2, 1, 2, 2, 4, 8, 10);
    }

    static void triesInItsSearch() {
        Check.sentence("Promise 8", "TRIES in its SEARCH (2),");
        SparseDishes x = new SparseDishes();
        Check.row("ruler(n, 2): n =", n -> x.ruler(n, 2), 2, 1, 4, 19, 259, 2782, 40283);
    }

    static void whateverDishesStand() {
        Check.sentence("Promise 8", "RULERS of n MARKS: the SHORTEST (what = 0),");
        SparseDishes x = Check.twelve();
        Check.due("twelve stand: ruler(5, 0)", x.ruler(5, 0), 11);
        Check.due("told(0)", x.told(0), 12);
        Check.due("facts(0)", x.facts(0), 12);
    }

    static void eachMarkOfTheFirstOne() {
        Check.sentence("Promise 8", MARKS);
        SparseDishes x = new SparseDishes();
        Check.row("ruler(2, what)", what -> x.ruler(2, what), 10, 0, 1, Check.NONE);
        Check.row("ruler(3, what)", what -> x.ruler(3, what), 10, 0, 1, 3, Check.NONE);
        Check.row("ruler(4, what)", what -> x.ruler(4, what), 10, 0, 1, 4, 6, Check.NONE);
        Check.row("ruler(5, what)", what -> x.ruler(5, what), 10, 0, 1, 4, 9, 11, Check.NONE);
        Check.row("ruler(6, what)", what -> x.ruler(6, what), 10, 0, 1, 4, 10, 12, 17, Check.NONE);
        Check.row("ruler(7, what)", what -> x.ruler(7, what), 10, 0, 1, 4, 10, 18, 23, 25, Check.NONE);
    }

    static void behindTheLastMarkThereIsNone() {
        Check.sentence("Promise 8", MARKS);
        SparseDishes x = new SparseDishes();
        for (int n = 2; n <= 7; n++) {
            int marks = n;
            Check.due("ruler(" + n + ", 9 + n)", x.ruler(n, 9 + n), LAST_MARKS[n - 2]);
            Check.dueOfAll("ruler(" + n + ", what)", what -> x.ruler(marks, what), Check.NONE,
                10 + n, 11 + n, 70, 74, 100, 65546, Check.MAX - 1, Check.MAX);
        }
    }

    /** NONE is an answer, and no refusal. */
    static void whereThereIsNoMarkItIsSearchedAllTheSame() {
        Check.sentence("Promise 8", MARKS);
        SparseDishes x = new SparseDishes();
        Check.due("ruler(4, 14)", x.ruler(4, 14), Check.NONE);
        Check.due("told(1)", x.told(1), 1);
        Check.due("told(2)", x.told(2), 19);
    }

    static void marksBelow2AndAbove7AreOutside() {
        Check.sentence("Promise 8", OUTSIDE_WORDS);
        SparseDishes x = new SparseDishes();
        for (int what : new int[] {0, 1, 2, 10}) {
            Check.dueOfAll("ruler(n, " + what + ")", n -> x.ruler(n, what), Check.OUTSIDE,
                1, 8, 0, -1, 9, 34, 39, -60, Check.MIN, Check.MIN + 2, Check.MAX);
        }
        Check.due("told(1): nothing is searched", x.told(1), 0);
        Check.due("the least that is taken: ruler(2, 0)", x.ruler(2, 0), 1);
        Check.due("the greatest that is taken: ruler(7, 0)", x.ruler(7, 0), 25);
    }

    static void whatIs3To9OrLessThan0IsOutside() {
        Check.sentence("Promise 8", OUTSIDE_WORDS);
        SparseDishes x = new SparseDishes();
        Check.dueOfAll("ruler(3, what)", what -> x.ruler(3, what), Check.OUTSIDE,
            -1, 3, 4, 5, 6, 7, 8, 9, -2, -10, -64, Check.MIN, Check.MIN + 10);
        Check.due("told(1): nothing is searched", x.told(1), 0);
        Check.due("told(4)", x.told(4), 0);
        Check.due("2 is taken: ruler(3, 2)", x.ruler(3, 2), 4);
        Check.due("10 is taken: ruler(3, 10)", x.ruler(3, 10), 0);
    }

    static void bothMayBeOutside() {
        Check.sentence("Promise 8", OUTSIDE_WORDS);
        SparseDishes x = new SparseDishes();
        Check.due("ruler(1, -1)", x.ruler(1, -1), Check.OUTSIDE);
        Check.due("ruler(8, 9)", x.ruler(8, 9), Check.OUTSIDE);
    }
}

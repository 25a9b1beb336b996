/** Promises 8 to 10: ruler, cover, stand. */
public final class SearchTest {
    private static final int MIN = Integer.MIN_VALUE, MAX = Integer.MAX_VALUE;
    private static final int[] WRONG_WHATS = {-1, 3, 4, 5, 6, 7, 8, 9, -10, MIN};

    public static void main(String[] args) {
        rulers();
        rulersAsThePlainSearch();
        rulersRefused();
        covers();
        coversAsThePlainSearch();
        coversRefused();
        searchedOnce();
        stand();
        standTakesAllAway();
        standRefused();
        standAboveTheLast();
        Check.end();
    }

    private static void rulers() {
        int[] shortest = {1, 3, 6, 11, 17, 25};
        int[] howMany = {1, 2, 2, 4, 8, 10};
        SparseDishes x = new SparseDishes();
        for (int n = 2; n <= 7; n++) {
            Check.due("ruler(" + n + ", 0)", x.ruler(n, 0), shortest[n - 2]);
            Check.due("ruler(" + n + ", 1)", x.ruler(n, 1), howMany[n - 2]);
        }
        Check.due("ruler(2, 2)", x.ruler(2, 2), 1);
        Check.due("ruler(3, 2)", x.ruler(3, 2), 4);
        Check.due("ruler(4, 2)", x.ruler(4, 2), 19);
        int[] five = {0, 1, 4, 9, 11};
        for (int i = 0; i < 5; i++) Check.due("ruler(5, 10 + " + i + ")", x.ruler(5, 10 + i), five[i]);
        int[] seven = {0, 1, 4, 10, 18, 23, 25};
        for (int i = 0; i < 7; i++) Check.due("ruler(7, 10 + " + i + ")", x.ruler(7, 10 + i), seven[i]);
        for (int n = 2; n <= 7; n++) Check.due("ruler(" + n + ", 10 + n)", x.ruler(n, 10 + n), SparseDishes.NONE);
        Check.due("ruler(7, greatest)", x.ruler(7, MAX), SparseDishes.NONE);
    }

    private static void rulersAsThePlainSearch() {
        SparseDishes x = new SparseDishes();
        for (int n = 7; n >= 2; n--) {
            PlainSearch due = PlainSearch.ofRuler(n);
            for (int what = 0; what <= 2; what++) {
                Check.due("ruler(" + n + ", " + what + ")", x.ruler(n, what), due.answer(what));
            }
            for (int i = 0; i <= 9; i++) {
                Check.due("ruler(" + n + ", 10 + " + i + ")", x.ruler(n, 10 + i), due.answer(10 + i));
            }
        }
    }

    private static void rulersRefused() {
        SparseDishes x = new SparseDishes();
        int[] wrong = {1, 8, 0, -1, 34, 39, MIN, MAX};
        for (int n : wrong) Check.due("ruler(" + n + ", 0)", x.ruler(n, 0), SparseDishes.OUTSIDE);
        for (int what : WRONG_WHATS) Check.due("ruler(3, " + what + ")", x.ruler(3, what), SparseDishes.OUTSIDE);
        Check.due("told(1): nothing is searched for refused calls", x.told(1), 0);
        Check.due("told(2)", x.told(2), 0);
        Check.due("told(4)", x.told(4), 0);
    }

    private static void covers() {
        int[] fewest = {2, 3, 3, 4, 4, 4, 5, 5, 5, 6, 6, 6, 6, 7, 7, 7, 7, 8, 8, 8};
        SparseDishes x = new SparseDishes();
        for (int length = 1; length <= 20; length++) {
            Check.due("cover(" + length + ", 0)", x.cover(length, 0), fewest[length - 1]);
        }
        int[] number = {1, 1, 2};
        int[] tries = {0, 1, 2};
        for (int length = 1; length <= 3; length++) {
            Check.due("cover(" + length + ", 1)", x.cover(length, 1), number[length - 1]);
            Check.due("cover(" + length + ", 2)", x.cover(length, 2), tries[length - 1]);
        }
        int[] six = {0, 1, 4, 6};
        for (int i = 0; i < 4; i++) Check.due("cover(6, 10 + " + i + ")", x.cover(6, 10 + i), six[i]);
        Check.due("cover(6, 14)", x.cover(6, 14), SparseDishes.NONE);
        Check.due("cover(1, 10)", x.cover(1, 10), 0);
        Check.due("cover(1, 11)", x.cover(1, 11), 1);
        Check.due("cover(1, 12)", x.cover(1, 12), SparseDishes.NONE);
        Check.due("cover(20, greatest)", x.cover(20, MAX), SparseDishes.NONE);
    }

    private static void coversAsThePlainSearch() {
        SparseDishes x = new SparseDishes();
        for (int length = 20; length >= 1; length--) {
            PlainSearch due = PlainSearch.ofCover(length);
            for (int what = 0; what <= 2; what++) {
                Check.due("cover(" + length + ", " + what + ")", x.cover(length, what), due.answer(what));
            }
            for (int i = 0; i <= 9; i++) {
                Check.due("cover(" + length + ", 10 + " + i + ")", x.cover(length, 10 + i), due.answer(10 + i));
            }
        }
    }

    private static void coversRefused() {
        SparseDishes x = new SparseDishes();
        int[] wrong = {0, 21, -1, 33, MIN, MAX};
        for (int length : wrong) Check.due("cover(" + length + ", 0)", x.cover(length, 0), SparseDishes.OUTSIDE);
        for (int what : WRONG_WHATS) Check.due("cover(3, " + what + ")", x.cover(3, what), SparseDishes.OUTSIDE);
        Check.due("told(1): nothing is searched for refused calls", x.told(1), 0);
        Check.due("told(5)", x.told(5), 0);
    }

    private static void searchedOnce() {
        SparseDishes x = new SparseDishes();
        for (int round = 0; round < 2; round++) {
            for (int n = 2; n <= 7; n++) x.ruler(n, 10 + round);
            for (int length = 1; length <= 20; length++) x.cover(length, 2 - round);
        }
        x.stand(0, 5, 3);
        x.stand(1, 17, 3);
        int tries = 0;
        for (int n = 2; n <= 7; n++) tries += x.ruler(n, 2);
        for (int length = 1; length <= 20; length++) tries += x.cover(length, 2);
        Check.due("told(1)", x.told(1), 26);
        Check.due("told(2)", x.told(2), tries);
        Check.due("told(4)", x.told(4), 0b11111100);
        Check.due("told(5)", x.told(5), (1 << 21) - 2);
    }

    private static void stand() {
        SparseDishes x = Check.dishesAt(0, 59);
        Check.due("stand(0, 4, 54)", x.stand(0, 4, 54), 4);
        Check.stations("a ruler up to the last station", x, 54, 55, 58, 60);
        Check.due("told(0)", x.told(0), 0);
        Check.due("undo()", x.undo(), SparseDishes.NO);
        Check.due("told(4)", x.told(4), 16);
        Check.due("stand(1, 1, 0)", x.stand(1, 1, 0), 2);
        Check.stations("a cover", x, 0, 1);
        Check.due("stand(1, 6, 7)", x.stand(1, 6, 7), 4);
        Check.stations("a cover moved on", x, 7, 8, 11, 13);
        Check.due("told(5)", x.told(5), 66);
        Check.due("stand(0, 2, 59)", x.stand(0, 2, 59), 2);
        Check.stations("two", x, 59, 60);
        Check.due("stand(1, 20, 40)", x.stand(1, 20, 40), 8);
        Check.due("station(7)", x.station(7), 60);
        Check.due("facts(2)", x.facts(2), 20);
    }

    private static void standTakesAllAway() {
        SparseDishes x = Check.dishesAt(0, 1, 9);
        x.error(0, 10);
        x.error(1, 20);
        x.error(9, 30);
        x.sky(1, 40);
        x.image(1);
        Check.due("stand(0, 3, 0)", x.stand(0, 3, 0), 3);
        Check.stations("stand", x, 0, 1, 3);
        Check.due("told(100): it is another one", x.told(100), 0);
        Check.due("told(101): it is another one", x.told(101), 0);
        Check.due("told(109)", x.told(109), SparseDishes.NONE);
        Check.due("told(201): the SKY stays", x.told(201), 40);
        Check.due("told(6)", x.told(6), 4);
        Check.due("restore(1): the IMAGE stays", x.restore(1), 1);
        Check.due("told(109)", x.told(109), 30);
    }

    private static void standRefused() {
        SparseDishes x = Check.dishesAt(2, 4);
        int[][] outside = {{2, 3, 0}, {-1, 3, 0}, {MAX, 3, 0}, {MIN, 3, 0}, {0, 1, 0}, {0, 8, 0}, {0, MIN, 0},
            {1, 0, 0}, {1, 21, 0}, {1, MAX, 0}, {0, 3, -1}, {0, 3, 61}, {1, 3, 64}, {0, 3, MIN}, {0, 3, MAX}};
        for (int[] a : outside) {
            String call = "stand(" + a[0] + ", " + a[1] + ", " + a[2] + ")";
            Check.due(call, x.stand(a[0], a[1], a[2]), SparseDishes.OUTSIDE);
        }
        Check.stations("nothing is changed", x, 2, 4);
        Check.due("told(0)", x.told(0), 2);
        Check.due("told(1)", x.told(1), 0);
    }

    private static void standAboveTheLast() {
        SparseDishes x = Check.dishesAt(2, 4);
        Check.due("stand(0, 4, 55)", x.stand(0, 4, 55), SparseDishes.NO);
        Check.due("told(1): it is searched, all the same", x.told(1), 1);
        Check.due("told(2)", x.told(2), 19);
        Check.due("told(4)", x.told(4), 16);
        Check.due("stand(1, 20, 60)", x.stand(1, 20, 60), SparseDishes.NO);
        Check.due("told(1)", x.told(1), 2);
        Check.due("told(5)", x.told(5), 1 << 20);
        Check.stations("the DISHES stay", x, 2, 4);
        Check.due("told(0): the LOG stays", x.told(0), 2);
    }
}

/** Promises 1 to 7: a new object, put, lift, undo, station, spacing, facts. */
public final class DishesTest {
    private static final int MIN = Integer.MIN_VALUE, MAX = Integer.MAX_VALUE;

    public static void main(String[] args) {
        aNewObject();
        put();
        lift();
        undo();
        undoForgetsTheEldest();
        station();
        spacing();
        factsOfFew();
        facts();
        Check.end();
    }

    private static void aNewObject() {
        SparseDishes x = new SparseDishes();
        Check.stations("new", x);
        for (int what = 0; what <= 4; what++) Check.due("new facts(" + what + ")", x.facts(what), 0);
        Check.due("new facts(5)", x.facts(5), SparseDishes.NONE);
        Check.due("new facts(6)", x.facts(6), SparseDishes.NONE);
        for (int what = 0; what <= 6; what++) Check.due("new told(" + what + ")", x.told(what), 0);
        for (int s = 0; s <= 60; s++) Check.due("new told(100 + " + s + ")", x.told(100 + s), SparseDishes.NONE);
        for (int s = 1; s <= 60; s++) Check.due("new told(200 + " + s + ")", x.told(200 + s), 0);
        Check.due("new restore(0)", x.restore(0), SparseDishes.STATE);
        Check.due("new undo()", x.undo(), SparseDishes.NO);
        x.put(7);
        x.ruler(3, 0);
        SparseDishes another = new SparseDishes();
        Check.due("another: facts(0)", another.facts(0), 0);
        Check.due("another: told(1)", another.told(1), 0);
    }

    private static void put() {
        SparseDishes x = new SparseDishes();
        Check.due("put(60)", x.put(60), 1);
        Check.due("put(0)", x.put(0), 2);
        int[] outside = {-1, 61, MIN, MAX, 64, 124, -64};
        for (int s : outside) Check.due("put(" + s + ")", x.put(s), SparseDishes.OUTSIDE);
        Check.due("put(0) again", x.put(0), SparseDishes.NO);
        Check.due("put(60) again", x.put(60), SparseDishes.NO);
        Check.due("told(0): refused ones are not logged", x.told(0), 2);
        for (int s = 1; s <= 10; s++) Check.due("put(" + s + ")", x.put(s), s + 2);
        Check.due("put(11): FULL", x.put(11), SparseDishes.FULL);
        Check.due("put(10): NO comes ahead of FULL", x.put(10), SparseDishes.NO);
        Check.due("put(61): OUTSIDE comes ahead of FULL", x.put(61), SparseDishes.OUTSIDE);
        Check.stations("full", x, 0, 1, 2, 3, 4, 5, 6, 7, 8, 9, 10, 60);
        Check.due("told(0)", x.told(0), 12);
    }

    private static void lift() {
        SparseDishes x = Check.dishesAt(0, 5, 60);
        int[] unknown = {-1, 1, 59, 61, 64, 69, MIN, MAX};
        for (int s : unknown) Check.due("lift(" + s + ")", x.lift(s), SparseDishes.UNKNOWN);
        Check.due("told(0)", x.told(0), 3);
        Check.due("lift(5)", x.lift(5), 2);
        Check.due("lift(5) again", x.lift(5), SparseDishes.UNKNOWN);
        Check.stations("lifted", x, 0, 60);
        Check.due("told(0)", x.told(0), 4);
        Check.due("lift(60)", x.lift(60), 1);
        Check.due("lift(0)", x.lift(0), 0);
        Check.stations("none", x);
        x.put(5);
        x.error(5, 77);
        x.lift(5);
        Check.due("told(105): gone", x.told(105), SparseDishes.NONE);
        x.put(5);
        Check.due("told(105): 0 when it comes", x.told(105), 0);
    }

    private static void undo() {
        SparseDishes x = Check.dishesAt(3, 9);
        x.error(9, 50);
        x.error(9, 50);
        Check.due("told(0): the same again is logged, too", x.told(0), 4);
        x.sky(6, 12);
        Check.due("told(0): a SKY is not", x.told(0), 4);
        x.lift(9);
        Check.due("undo() of lift", x.undo(), 4);
        Check.due("told(109): it has its ERROR again", x.told(109), 50);
        Check.due("undo() of error", x.undo(), 3);
        Check.due("told(109)", x.told(109), 50);
        Check.due("undo() of error", x.undo(), 2);
        Check.due("told(109)", x.told(109), 0);
        Check.due("undo() of put", x.undo(), 1);
        Check.stations("undone", x, 3);
        Check.due("undo() of put", x.undo(), 0);
        Check.stations("all undone", x);
        Check.due("undo()", x.undo(), SparseDishes.NO);
        Check.due("told(3)", x.told(3), 5);
        Check.due("told(206): the SKY stays", x.told(206), 12);
        Check.due("told(6): what was told stays counted", x.told(6), 3);
        Check.due("put(4)", x.put(4), 1);
        Check.due("undo()", x.undo(), 0);
    }

    private static void undoForgetsTheEldest() {
        SparseDishes x = Check.dishesAt(1, 2, 3);
        for (int i = 1; i <= 14; i++) x.error(2, i);
        Check.due("told(0): 16 at most", x.told(0), 16);
        x.lift(2);
        Check.due("told(0): 16 at most", x.told(0), 16);
        Check.due("undo()", x.undo(), 15);
        for (int left = 14; left >= 1; left--) {
            Check.due("undo()", x.undo(), left);
            Check.due("told(102)", x.told(102), left - 1);
        }
        Check.due("undo()", x.undo(), 0);
        Check.stations("put(3) is taken back, the elder ones are forgotten", x, 1, 2);
        Check.due("undo()", x.undo(), SparseDishes.NO);
        Check.stations("forgotten", x, 1, 2);
        Check.due("told(3)", x.told(3), 16);
    }

    private static void station() {
        SparseDishes x = Check.dishesAt(60, 0, 31, 32, 33);
        Check.stations("rising", x, 0, 31, 32, 33, 60);
        int[] none = {-1, 5, 60, 64, MIN, MAX};
        for (int i : none) Check.due("station(" + i + ")", x.station(i), SparseDishes.NONE);
    }

    private static void spacing() {
        SparseDishes x = Check.dishesAt(0, 10, 20, 60);
        int[] outside = {0, -1, 61, 64, 74, MIN, MAX};
        for (int d : outside) Check.due("spacing(" + d + ")", x.spacing(d), SparseDishes.OUTSIDE);
        for (int d = 1; d <= 60; d++) {
            int want = d == 10 ? 2 : d == 20 || d == 40 || d == 50 || d == 60 ? 1 : 0;
            Check.due("spacing(" + d + ")", x.spacing(d), want);
        }
    }

    private static void factsOfFew() {
        SparseDishes x = Check.dishesAt(60);
        int[] one = {1, 0, 0, 0, 0, SparseDishes.NONE, SparseDishes.NONE};
        for (int what = 0; what <= 6; what++) Check.due("one: facts(" + what + ")", x.facts(what), one[what]);
        x.put(0);
        int[] two = {2, 60, 0, 59, 0, 1, 60};
        for (int what = 0; what <= 6; what++) Check.due("two: facts(" + what + ")", x.facts(what), two[what]);
        int[] outside = {-1, 7, 10, MIN, MAX};
        for (int what : outside) Check.due("facts(" + what + ")", x.facts(what), SparseDishes.OUTSIDE);
    }

    private static void facts() {
        int[][] stations = {{0, 1, 4, 6}, {10, 20, 30}, {5, 6, 7, 8}, {1, 2, 5, 8}, {0, 2, 4, 7, 8}};
        int[][] due = {
            {4, 6, 6, 0, 0, SparseDishes.NONE, 1},
            {3, 20, 0, 18, 1, 1, 10},
            {4, 3, 3, 0, 3, SparseDishes.NONE, 1},
            {4, 7, 1, 2, 1, 2, 3},
            {5, 8, 8, 0, 2, SparseDishes.NONE, 2},
        };
        for (int k = 0; k < stations.length; k++) {
            SparseDishes x = Check.dishesAt(stations[k]);
            for (int what = 0; what <= 6; what++) {
                Check.due("stations " + k + ": facts(" + what + ")", x.facts(what), due[k][what]);
            }
        }
    }
}

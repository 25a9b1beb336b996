/** Promise 5: station. */
public final class Promise05StationTest {
    public static void main(String[] args) {
        Check.run(Promise05StationTest.class);
    }

    static void theyRiseInWhicheverOrderTheyCame() {
        Check.sentence("Promise 5", "The STATION of the i-th DISH, rising;");
        SparseDishes x = Check.dishesAt(60, 0, 31, 33, 32);
        Check.row("station", x::station, 0, 0, 31, 32, 33, 60);
    }

    static void theLastOfTwelve() {
        Check.sentence("Promise 5", "The STATION of the i-th DISH, rising;");
        SparseDishes x = new SparseDishes();
        for (int s = 60; s >= 49; s--) x.put(s);
        Check.row("station", x::station, 0, 49, 50, 51, 52, 53, 54, 55, 56, 57, 58, 59, 60);
    }

    static void behindTheLastThereIsNone() {
        Check.sentence("Promise 5", "NONE.");
        Check.due("no DISH: station(0)", new SparseDishes().station(0), Check.NONE);
        SparseDishes x = Check.dishesAt(0, 60);
        Check.dueOfAll("station", x::station, Check.NONE, 2, 3, 12, 60, 61, 64, 65536, Check.MAX);
        SparseDishes y = Check.twelve();
        Check.due("twelve: station(11)", y.station(11), 55);
        Check.due("twelve: station(12)", y.station(12), Check.NONE);
    }

    static void belowTheFirstThereIsNone() {
        Check.sentence("Promise 5", "NONE.");
        SparseDishes x = Check.dishesAt(0, 60);
        Check.dueOfAll("station", x::station, Check.NONE, -1, -2, -64, Check.MIN, Check.MIN + 1);
    }
}

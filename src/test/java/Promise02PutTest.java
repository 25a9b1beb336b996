/** Promise 2: put. */
public final class Promise02PutTest {
    public static void main(String[] args) {
        Check.run(Promise02PutTest.class);
    }

    static void aDishComesUpToTwelve() {
        Check.sentence("Promise 2", "A DISH comes: how many there are.");
        SparseDishes x = new SparseDishes();
        Check.due("put(60)", x.put(60), 1);
        Check.due("put(0)", x.put(0), 2);
        for (int s = 11; s <= 20; s++) Check.due("put(" + s + ")", x.put(s), s - 8);
        Check.stations("twelve", x, 0, 11, 12, 13, 14, 15, 16, 17, 18, 19, 20, 60);
    }

    static void aDishComesToThoseThatStand() {
        Check.sentence("Promise 2", "A DISH comes: how many there are.");
        SparseDishes x = new SparseDishes();
        x.stand(0, 7, 35);
        Check.due("put(0)", x.put(0), 8);
        for (int s = 1; s <= 4; s++) Check.due("put(" + s + ")", x.put(s), 8 + s);
        Check.due("put(5)", x.put(5), Check.FULL);
    }

    static void itsStationMayNotBeOutside() {
        Check.sentence("Promise 2", "OUTSIDE;");
        SparseDishes x = Check.dishesAt(0, 60);
        Check.dueOfAll("put", x::put, Check.OUTSIDE, Check.NO_STATIONS);
        Check.stations("none came", x, 0, 60);
        Check.due("told(0)", x.told(0), 2);
    }

    static void noneComesWhereOneStands() {
        Check.sentence("Promise 2", "NO: one stands there;");
        SparseDishes x = Check.dishesAt(0, 31, 60);
        x.error(31, 77);
        Check.dueOfAll("put", x::put, Check.NO, 0, 31, 60);
        Check.due("told(131): it has its ERROR still", x.told(131), 77);
        Check.due("told(0)", x.told(0), 4);
        Check.due("put(30), beside it", x.put(30), 4);
        Check.due("put(32), beside it", x.put(32), 5);
    }

    static void noneComesWhereOneStandsByStandOrRestore() {
        Check.sentence("Promise 2", "NO: one stands there;");
        SparseDishes x = Check.dishesAt(7);
        x.image(0);
        x.stand(0, 3, 57);
        Check.dueOfAll("put", x::put, Check.NO, 57, 58, 60);
        x.restore(0);
        Check.due("put(7)", x.put(7), Check.NO);
    }

    static void noneComesWhereTwelveStand() {
        Check.sentence("Promise 2", "FULL.");
        SparseDishes x = Check.twelve();
        for (int s = 0; s <= 60; s++) {
            Check.due("put(" + s + ")", x.put(s), s % 5 == 0 && s < 60 ? Check.NO : Check.FULL);
        }
        Check.due("told(0)", x.told(0), 12);
        Check.stations("twelve", x, 0, 5, 10, 15, 20, 25, 30, 35, 40, 45, 50, 55);
    }
}

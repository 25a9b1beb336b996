/** Promise 18: image. */
public final class Promise18ImageTest {
    private static final String KEPT = "DISHES with their ERRORS, SKIES are kept in an IMAGE (0, 1): 1.";

    public static void main(String[] args) {
        Check.run(Promise18ImageTest.class);
    }

    static void dishesErrorsAndSkiesAreKept() {
        Check.sentence("Promise 18", KEPT);
        SparseDishes x = Check.dishesAt(0, 60);
        x.error(60, 359);
        x.sky(60, 6);
        Check.due("image(0)", x.image(0), 1);
        x.lift(0);
        x.error(60, 7);
        x.sky(60, 8);
        x.sky(1, 9);
        x.restore(0);
        Check.stations("kept", x, 0, 60);
        Check.due("told(160)", x.told(160), 359);
        Check.due("told(260)", x.told(260), 6);
        Check.due("told(201)", x.told(201), 0);
    }

    static void thereAreTwoImages() {
        Check.sentence("Promise 18", KEPT);
        SparseDishes x = Check.dishesAt(0);
        Check.due("image(1)", x.image(1), 1);
        Check.due("restore(0): not kept", x.restore(0), Check.STATE);
        x.put(60);
        Check.due("image(0)", x.image(0), 1);
        x.restore(1);
        Check.stations("image 1", x, 0);
        x.restore(0);
        Check.stations("image 0", x, 0, 60);
    }

    static void itIsKeptInPlaceOfTheElderOne() {
        Check.sentence("Promise 18", KEPT);
        SparseDishes x = Check.dishesAt(0, 1);
        x.error(1, 5);
        x.sky(1, 6);
        x.image(1);
        x.lift(0);
        x.error(1, 7);
        x.sky(1, 8);
        Check.due("image(1) again", x.image(1), 1);
        x.put(30);
        x.restore(1);
        Check.stations("the latter one", x, 1);
        Check.due("told(101)", x.told(101), 7);
        Check.due("told(201)", x.told(201), 8);
    }

    static void nothingAndAllMayBeKept() {
        Check.sentence("Promise 18", KEPT);
        SparseDishes x = new SparseDishes();
        Check.due("no DISH: image(0)", x.image(0), 1);
        for (int s = 0; s <= 55; s += 5) x.put(s);
        for (int s = 0; s <= 55; s += 5) x.error(s, s + 1);
        for (int d = 1; d <= 60; d++) x.sky(d, d);
        Check.due("twelve: image(1)", x.image(1), 1);
        x.restore(0);
        Check.stations("none", x);
        for (int d = 1; d <= 60; d++) Check.due("told(200 + " + d + ")", x.told(200 + d), 0);
        x.restore(1);
        Check.stations("twelve", x, 0, 5, 10, 15, 20, 25, 30, 35, 40, 45, 50, 55);
        for (int s = 0; s <= 55; s += 5) Check.due("told(100 + " + s + ")", x.told(100 + s), s + 1);
        for (int d = 1; d <= 60; d++) Check.due("told(200 + " + d + ")", x.told(200 + d), d);
    }

    static void theLogStays() {
        Check.sentence("Promise 18", KEPT);
        SparseDishes x = Check.dishesAt(0, 1);
        x.image(0);
        Check.due("told(0)", x.told(0), 2);
        Check.due("undo()", x.undo(), 1);
        Check.stations("undone", x, 0);
    }

    static void thereIsNoOtherImage() {
        Check.sentence("Promise 18", "OUTSIDE.");
        SparseDishes x = Check.dishesAt(0);
        Check.dueOfAll("image", x::image, Check.OUTSIDE,
            -1, 2, 3, 32, 33, 64, 256, Check.MIN, Check.MIN + 1, Check.MAX);
        Check.due("nothing is kept: restore(0)", x.restore(0), Check.STATE);
        Check.due("nothing is kept: restore(1)", x.restore(1), Check.STATE);
    }
}

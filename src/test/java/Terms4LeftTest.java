/** Terms, part 4: LEFT, MISSED, SURE. */
public final class Terms4LeftTest {
    private static final String LEFT = "LEFT, if a DISH is lost: REACH of all others.";
    private static final String MISSED = "DISHES are MISSED by how little is LEFT without them, the least first, "
        + "of as little those of lesser STATIONS.";
    private static final String SURE = "SURE: the least that is LEFT, whichever one is lost";

    public static void main(String[] args) {
        Check.run(Terms4LeftTest.class);
    }

    static void nothingIsLeftOfOneOrTwo() {
        Check.sentence("Terms 4", LEFT);
        Check.due("one: left(60)", Check.dishesAt(60).left(60), 0);
        SparseDishes x = Check.dishesAt(59, 60);
        Check.due("two: left(59)", x.left(59), 0);
        Check.due("two: left(60)", x.left(60), 0);
    }

    static void whatIsLeftIsTheReachOfTheOthers() {
        Check.sentence("Terms 4", LEFT);
        SparseDishes x = Check.dishesAt(0, 1, 2, 3, 4, 10);
        int[] stations = {0, 1, 2, 3, 4, 10};
        int[] due = {3, 4, 4, 4, 3, 4};
        for (int i = 0; i < 6; i++) Check.due("left(" + stations[i] + ")", x.left(stations[i]), due[i]);
    }

    static void theReachMayBeAsItWasWithoutOne() {
        Check.sentence("Terms 4", LEFT);
        SparseDishes x = Check.dishesAt(0, 1, 60);
        Check.due("the REACH is 1, left(60)", x.left(60), 1);
        Check.due("left(0)", x.left(0), 0);
        Check.due("left(1)", x.left(1), 0);
    }

    static void whatIsLeftOfTwelve() {
        Check.sentence("Terms 4", LEFT);
        SparseDishes x = Check.dishesAt(10, 11, 13, 16, 23, 30, 37, 44, 51, 55, 59, 60);
        Check.due("left(10)", x.left(10), 5);
        Check.due("left(11)", x.left(11), 1);
        Check.due("left(37)", x.left(37), 17);
        Check.due("left(60)", x.left(60), 8);
    }

    static void noDishIsLostByAsking() {
        Check.sentence("Terms 4", LEFT);
        SparseDishes x = Check.dishesAt(0, 1, 4, 60);
        x.error(4, 77);
        x.left(4);
        x.missed(0);
        x.sure();
        Check.stations("all stand", x, 0, 1, 4, 60);
        Check.due("told(104)", x.told(104), 77);
        Check.due("told(0)", x.told(0), 5);
    }

    static void theDishWithoutWhichTheLeastIsLeftIsMissedFirst() {
        Check.sentence("Terms 4", MISSED);
        SparseDishes x = Check.dishesAt(30, 31, 60);
        Check.row("without 60 there is 1 left: missed", x::missed, 0, 30, 31, 60);
        SparseDishes y = Check.dishesAt(0, 30, 31);
        Check.row("without 0 there is 1 left: missed", y::missed, 0, 30, 31, 0);
    }

    static void ofAsLittleTheLesserStationIsMissedFirst() {
        Check.sentence("Terms 4", MISSED);
        SparseDishes x = Check.dishesAt(10, 4, 3, 2, 1, 0);
        Check.row("3 without 0 and 4, 4 without the others: missed", x::missed, 0, 0, 4, 1, 2, 3, 10);
        SparseDishes y = Check.dishesAt(60, 40, 20, 0);
        Check.row("0 without each: missed", y::missed, 0, 0, 20, 40, 60);
    }

    static void twelveInARowAreMissed() {
        Check.sentence("Terms 4", MISSED);
        SparseDishes x = new SparseDishes();
        for (int s = 0; s < 12; s++) x.put(s);
        Check.row("10 without the ends, 11 else: missed", x::missed, 0, 0, 11, 1, 2, 3, 4, 5, 6, 7, 8, 9, 10);
    }

    static void twelveOfWhichAlmostEachLeavesAnother() {
        Check.sentence("Terms 4", MISSED);
        SparseDishes x = Check.dishesAt(10, 11, 13, 16, 23, 30, 37, 44, 51, 55, 59, 60);
        Check.row("1, 1, 3, 5, 5, 7, 7, 8, 9, 10, 16, 17 are left: missed", x::missed, 0,
            11, 13, 55, 10, 16, 51, 59, 60, 23, 44, 30, 37);
    }

    static void sureIsTheLeastThatIsLeft() {
        Check.sentence("Terms 4", SURE);
        Check.due("0, 1, 2, 3, 4, 10: sure()", Check.dishesAt(0, 1, 2, 3, 4, 10).sure(), 3);
        Check.due("0 to 11: sure()", Check.dishesAt(0, 1, 2, 3, 4, 5, 6, 7, 8, 9, 10, 11).sure(), 10);
        Check.due("0, 1, 2: sure()", Check.dishesAt(0, 1, 2).sure(), 0);
        Check.due("57, 58, 59, 60: sure()", Check.dishesAt(57, 58, 59, 60).sure(), 2);
        Check.due("0, 1, 60: sure()", Check.dishesAt(0, 1, 60).sure(), 0);
    }

    static void sureIs0WithoutADish() {
        Check.sentence("Terms 4", SURE + " (0: no DISH).");
        SparseDishes x = new SparseDishes();
        Check.due("new: sure()", x.sure(), 0);
        x.put(0);
        Check.due("one: sure()", x.sure(), 0);
        x.lift(0);
        Check.due("all gone: sure()", x.sure(), 0);
    }
}

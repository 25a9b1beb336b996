/** Promise 15: left. */
public final class Promise15LeftTest {
    public static void main(String[] args) {
        Check.run(Promise15LeftTest.class);
    }

    static void whatIsLeftWithoutIt() {
        Check.sentence("Promise 15", "LEFT.");
        SparseDishes x = Check.dishesAt(0, 1, 3, 6, 60);
        Check.due("left(0)", x.left(0), 0);
        Check.due("left(60)", x.left(60), 3);
        Check.due("left(3)", x.left(3), 1);
        Check.due("left(1)", x.left(1), 0);
        Check.due("left(6)", x.left(6), 3);
    }

    static void ofOneAlone() {
        Check.sentence("Promise 15", "LEFT.");
        Check.due("left(0)", Check.dishesAt(0).left(0), 0);
        Check.due("left(60)", Check.dishesAt(60).left(60), 0);
    }

    static void whereNoneStandsNoneIsLost() {
        Check.sentence("Promise 15", "UNKNOWN.");
        SparseDishes x = Check.dishesAt(0, 1, 60);
        Check.dueOfAll("left", x::left, Check.UNKNOWN, 2, 30, 59);
        Check.dueOfAll("left", x::left, Check.UNKNOWN, Check.NO_STATIONS);
        Check.due("no DISH: left(0)", new SparseDishes().left(0), Check.UNKNOWN);
        SparseDishes y = Check.dishesAt(0, 1);
        y.lift(0);
        Check.due("gone: left(0)", y.left(0), Check.UNKNOWN);
    }
}

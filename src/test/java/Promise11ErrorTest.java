/** Promise 11: error. */
public final class Promise11ErrorTest {
    public static void main(String[] args) {
        Check.run(Promise11ErrorTest.class);
    }

    static void itAnswersWhichItWas() {
        Check.sentence("Promise 11", "The ERROR of a DISH: which it was.");
        SparseDishes x = Check.dishesAt(0, 60);
        Check.due("error(0, 359)", x.error(0, 359), 0);
        Check.due("error(0, 0)", x.error(0, 0), 359);
        Check.due("error(0, 7)", x.error(0, 7), 0);
        Check.due("error(0, 7), the same", x.error(0, 7), 7);
        Check.due("error(60, 8)", x.error(60, 8), 0);
        Check.due("told(100)", x.told(100), 7);
        Check.due("told(160)", x.told(160), 8);
    }

    static void ofTheLeastAndTheGreatestStation() {
        Check.sentence("Promise 11", "The ERROR of a DISH: which it was.");
        SparseDishes x = new SparseDishes();
        for (int s = 0; s <= 60; s++) {
            x.put(s);
            x.error(s, 300 + s % 60);
            Check.due("error(" + s + ", 0)", x.error(s, 0), 300 + s % 60);
            x.lift(s);
        }
    }

    static void whereNoneStandsThereIsNoError() {
        Check.sentence("Promise 11", "UNKNOWN;");
        SparseDishes x = Check.dishesAt(0, 60);
        Check.dueOfAll("error(s, 1)", s -> x.error(s, 1), Check.UNKNOWN, 1, 59);
        Check.dueOfAll("error(s, 1)", s -> x.error(s, 1), Check.UNKNOWN, Check.NO_STATIONS);
        Check.dueOfAll("error(1, p)", p -> x.error(1, p), Check.UNKNOWN, Check.NO_PHASES);
        Check.due("told(101)", x.told(101), Check.NONE);
        x.lift(60);
        Check.due("gone: error(60, 1)", x.error(60, 1), Check.UNKNOWN);
        Check.due("told(160)", x.told(160), Check.NONE);
        Check.due("told(0): what was refused is not logged", x.told(0), 3);
        Check.due("told(6): nor counted", x.told(6), 0);
    }

    static void whatIsNoPhaseIsOutside() {
        Check.sentence("Promise 11", "OUTSIDE.");
        SparseDishes x = Check.dishesAt(0, 60);
        x.error(60, 77);
        Check.dueOfAll("error(60, p)", p -> x.error(60, p), Check.OUTSIDE, Check.NO_PHASES);
        Check.due("told(160)", x.told(160), 77);
        Check.due("told(0): what was refused is not logged", x.told(0), 3);
        Check.due("told(6): nor counted", x.told(6), 1);
        Check.due("error(60, 0)", x.error(60, 0), 77);
        Check.due("error(60, 359)", x.error(60, 359), 0);
    }
}

/** Promise 12: sky. */
public final class Promise12SkyTest {
    public static void main(String[] args) {
        Check.run(Promise12SkyTest.class);
    }

    static void itAnswersWhichItWas() {
        Check.sentence("Promise 12", "The SKY of a SPACING: which it was.");
        SparseDishes x = new SparseDishes();
        for (int d = 1; d <= 60; d++) Check.due("sky(" + d + ", " + 5 * d + ")", x.sky(d, 5 * d), 0);
        for (int d = 1; d <= 60; d++) Check.due("sky(" + d + ", 359)", x.sky(d, 359), 5 * d);
        for (int d = 1; d <= 60; d++) Check.due("told(200 + " + d + ")", x.told(200 + d), 359);
    }

    static void itIsToldOfASpacingThatIsNotThere() {
        Check.sentence("Promise 12", "The SKY of a SPACING: which it was.");
        SparseDishes x = Check.dishesAt(0, 1);
        Check.due("sky(60, 5)", x.sky(60, 5), 0);
        Check.due("sky(60, 5), the same", x.sky(60, 5), 5);
        x.put(60);
        Check.due("phase(0, 60)", x.phase(0, 60), 5);
    }

    static void itIsNotLogged() {
        Check.sentence("Promise 12", "The SKY of a SPACING: which it was.");
        SparseDishes x = new SparseDishes();
        x.sky(1, 5);
        Check.due("told(0)", x.told(0), 0);
        Check.due("undo()", x.undo(), Check.NO);
        Check.due("told(201)", x.told(201), 5);
    }

    static void whatIsNoSpacingIsOutside() {
        Check.sentence("Promise 12", "OUTSIDE: both.");
        SparseDishes x = new SparseDishes();
        Check.dueOfAll("sky(d, 1)", d -> x.sky(d, 1), Check.OUTSIDE, Check.NO_LENGTHS);
        for (int d = 1; d <= 60; d++) Check.due("told(200 + " + d + ")", x.told(200 + d), 0);
        Check.due("told(6)", x.told(6), 0);
    }

    static void whatIsNoPhaseIsOutside() {
        Check.sentence("Promise 12", "OUTSIDE: both.");
        SparseDishes x = new SparseDishes();
        x.sky(60, 77);
        Check.dueOfAll("sky(60, p)", p -> x.sky(60, p), Check.OUTSIDE, Check.NO_PHASES);
        Check.due("told(260)", x.told(260), 77);
        Check.due("told(6)", x.told(6), 1);
        Check.due("sky(61, 360), both", x.sky(61, 360), Check.OUTSIDE);
        Check.due("sky(60, 359)", x.sky(60, 359), 77);
        Check.due("sky(60, 0)", x.sky(60, 0), 359);
    }
}

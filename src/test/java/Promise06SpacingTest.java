/** Promise 6: spacing. */
public final class Promise06SpacingTest {
    public static void main(String[] args) {
        Check.run(Promise06SpacingTest.class);
    }

    static void howOftenALengthIsThere() {
        Check.sentence("Promise 6", "How often a length is there.");
        SparseDishes x = Check.twelve();
        for (int d = 1; d <= 60; d++) {
            Check.due("spacing(" + d + ")", x.spacing(d), d % 5 == 0 ? 12 - d / 5 : 0);
        }
    }

    static void itIsAskedOfWhatStandsNow() {
        Check.sentence("Promise 6", "How often a length is there.");
        SparseDishes x = Check.dishesAt(0, 1, 2);
        Check.due("spacing(1)", x.spacing(1), 2);
        x.lift(1);
        Check.due("lifted: spacing(1)", x.spacing(1), 0);
        x.undo();
        Check.due("undone: spacing(1)", x.spacing(1), 2);
        x.stand(0, 2, 0);
        Check.due("stood: spacing(1)", x.spacing(1), 1);
    }

    static void theLengths1And60AreTaken() {
        Check.sentence("Promise 6", "OUTSIDE: 1 to 60.");
        SparseDishes x = Check.dishesAt(0, 1, 60);
        Check.due("spacing(1)", x.spacing(1), 1);
        Check.due("spacing(60)", x.spacing(60), 1);
        SparseDishes y = new SparseDishes();
        Check.due("no DISH: spacing(1)", y.spacing(1), 0);
        Check.due("no DISH: spacing(60)", y.spacing(60), 0);
    }

    static void lengthsBelow1AndAbove60AreOutside() {
        Check.sentence("Promise 6", "OUTSIDE: 1 to 60.");
        SparseDishes x = Check.dishesAt(0, 1, 60);
        Check.dueOfAll("spacing", x::spacing, Check.OUTSIDE, Check.NO_LENGTHS);
        Check.dueOfAll("no DISH: spacing", new SparseDishes()::spacing, Check.OUTSIDE, Check.NO_LENGTHS);
    }
}

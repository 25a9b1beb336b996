/** Promise 1: a new object. */
public final class Promise01NewTest {
    public static void main(String[] args) {
        Check.run(Promise01NewTest.class);
    }

    static void noDishStands() {
        Check.sentence("Promise 1", "No DISH;");
        SparseDishes x = new SparseDishes();
        Check.stations("new", x);
        Check.row("facts", x::facts, 0, 0, 0, 0, 0, 0, Check.NONE, Check.NONE);
        for (int d = 1; d <= 60; d++) Check.due("spacing(" + d + ")", x.spacing(d), 0);
        for (int s = 0; s <= 60; s++) Check.due("told(100 + " + s + ")", x.told(100 + s), Check.NONE);
    }

    static void noDishIsThereToBeAsked() {
        Check.sentence("Promise 1", "No DISH;");
        SparseDishes x = new SparseDishes();
        for (int s = 0; s <= 60; s++) Check.due("lift(" + s + ")", x.lift(s), Check.UNKNOWN);
        Check.due("error(0, 0)", x.error(0, 0), Check.UNKNOWN);
        Check.due("left(0)", x.left(0), Check.UNKNOWN);
        Check.due("missed(0)", x.missed(0), Check.NONE);
        Check.due("sure()", x.sure(), 0);
    }

    static void nothingIsSearched() {
        Check.sentence("Promise 1", "nothing is searched.");
        SparseDishes x = new SparseDishes();
        Check.due("told(1)", x.told(1), 0);
        Check.due("told(2)", x.told(2), 0);
        Check.due("told(4)", x.told(4), 0);
        Check.due("told(5)", x.told(5), 0);
    }

    static void nothingIsLoggedUndoneToldOrKept() {
        Check.sentence("Promise 1", "No DISH; nothing is searched.");
        SparseDishes x = new SparseDishes();
        Check.due("told(0)", x.told(0), 0);
        Check.due("told(3)", x.told(3), 0);
        Check.due("told(6)", x.told(6), 0);
        Check.due("undo()", x.undo(), Check.NO);
        Check.due("restore(0)", x.restore(0), Check.STATE);
        Check.due("restore(1)", x.restore(1), Check.STATE);
    }
}

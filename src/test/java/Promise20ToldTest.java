/** Promise 20: told. */
public final class Promise20ToldTest {
    private static final String UNDONE = "3 how often undo() took something back,";
    private static final String PHASES = "6 how often an ERROR, a SKY, was told that was not refused;";

    public static void main(String[] args) {
        Check.run(Promise20ToldTest.class);
    }

    static void howManyAreInTheLog() {
        Check.sentence("Promise 20", "0 in the LOG,");
        SparseDishes x = new SparseDishes();
        Check.due("new: told(0)", x.told(0), 0);
        x.put(0);
        Check.due("one: told(0)", x.told(0), 1);
        for (int e = 1; e <= 15; e++) x.error(0, e);
        Check.due("sixteen: told(0)", x.told(0), 16);
        x.error(0, 16);
        Check.due("seventeen: told(0)", x.told(0), 16);
        x.undo();
        Check.due("one taken back: told(0)", x.told(0), 15);
    }

    static void howManySearchesWereDone() {
        Check.sentence("Promise 20", "1 SEARCHES that were done,");
        SparseDishes x = new SparseDishes();
        Check.due("new: told(1)", x.told(1), 0);
        x.ruler(2, 0);
        Check.due("told(1)", x.told(1), 1);
        x.ruler(2, 1);
        Check.due("the same: told(1)", x.told(1), 1);
        x.cover(2, 0);
        Check.due("told(1)", x.told(1), 2);
        x.stand(0, 3, 0);
        Check.due("told(1)", x.told(1), 3);
        for (int n = 2; n <= 7; n++) x.ruler(n, 0);
        for (int length = 1; length <= 20; length++) x.cover(length, 0);
        Check.due("all: told(1)", x.told(1), 26);
    }

    static void triesInAllSearches() {
        Check.sentence("Promise 20", "2 TRIES in all of them,");
        SparseDishes x = new SparseDishes();
        Check.due("new: told(2)", x.told(2), 0);
        x.cover(1, 0);
        Check.due("without a TRY: told(2)", x.told(2), 0);
        x.ruler(2, 0);
        Check.due("told(2)", x.told(2), 1);
        x.ruler(4, 0);
        Check.due("told(2)", x.told(2), 1 + 19);
        x.cover(6, 0);
        Check.due("told(2)", x.told(2), 1 + 19 + 13);
        x.stand(1, 10, 60);
        Check.due("by a refused stand: told(2)", x.told(2), 1 + 19 + 13 + 330);
    }

    static void howOftenItWasUndone() {
        Check.sentence("Promise 20", UNDONE);
        SparseDishes x = new SparseDishes();
        x.undo();
        Check.due("refused: told(3)", x.told(3), 0);
        x.put(0);
        x.error(0, 1);
        x.lift(0);
        for (int i = 1; i <= 3; i++) {
            x.undo();
            Check.due("told(3)", x.told(3), i);
        }
        x.undo();
        Check.due("refused: told(3)", x.told(3), 3);
        for (int i = 0; i < 40; i++) {
            x.put(0);
            x.undo();
        }
        Check.due("more than the LOG holds: told(3)", x.told(3), 43);
    }

    static void whichRulersAreKnown() {
        Check.sentence("Promise 20", "4 which RULERS are known (bits: n),");
        SparseDishes x = new SparseDishes();
        Check.due("new: told(4)", x.told(4), 0);
        x.ruler(2, 0);
        Check.due("the least: told(4)", x.told(4), 4);
        x.ruler(7, 1);
        Check.due("the greatest: told(4)", x.told(4), 4 + 128);
        x.stand(0, 4, 0);
        Check.due("by stand: told(4)", x.told(4), 4 + 16 + 128);
        x.cover(5, 0);
        Check.due("a cover is none: told(4)", x.told(4), 4 + 16 + 128);
        for (int n = 2; n <= 7; n++) x.ruler(n, 0);
        Check.due("all: told(4)", x.told(4), 252);
    }

    static void whichCoversAreKnown() {
        Check.sentence("Promise 20", "5 which COVERS (bits: lengths),");
        SparseDishes x = new SparseDishes();
        Check.due("new: told(5)", x.told(5), 0);
        x.cover(1, 0);
        Check.due("the least: told(5)", x.told(5), 2);
        x.cover(20, 2);
        Check.due("the greatest: told(5)", x.told(5), 2 + 1048576);
        x.stand(1, 6, 0);
        Check.due("by stand: told(5)", x.told(5), 2 + 64 + 1048576);
        x.ruler(5, 0);
        Check.due("a ruler is none: told(5)", x.told(5), 2 + 64 + 1048576);
        for (int length = 1; length <= 20; length++) x.cover(length, 0);
        Check.due("all: told(5)", x.told(5), 2097150);
    }

    static void howOftenAnErrorOrASkyWasTold() {
        Check.sentence("Promise 20", PHASES);
        SparseDishes x = Check.dishesAt(0);
        Check.due("none: told(6)", x.told(6), 0);
        x.error(0, 5);
        Check.due("an ERROR: told(6)", x.told(6), 1);
        x.sky(60, 5);
        Check.due("a SKY: told(6)", x.told(6), 2);
        x.error(0, 5);
        x.sky(60, 5);
        Check.due("the same again: told(6)", x.told(6), 4);
        x.error(1, 5);
        x.error(0, 360);
        x.sky(61, 5);
        x.sky(60, -1);
        Check.due("refused: told(6)", x.told(6), 4);
        x.undo();
        Check.due("undone: told(6)", x.told(6), 4);
        x.image(0);
        x.restore(0);
        Check.due("restored: told(6)", x.told(6), 4);
    }

    static void theErrorAtEachStation() {
        Check.sentence("Promise 20", "100 and a STATION: the ERROR there (NONE: no DISH),");
        SparseDishes x = Check.dishesAt(0, 30, 60);
        x.error(0, 11);
        x.error(60, 359);
        for (int s = 0; s <= 60; s++) {
            int want = s == 0 ? 11 : s == 30 ? 0 : s == 60 ? 359 : Check.NONE;
            Check.due("told(100 + " + s + ")", x.told(100 + s), want);
        }
        x.lift(30);
        Check.due("gone: told(130)", x.told(130), Check.NONE);
    }

    static void theSkyOfEachSpacing() {
        Check.sentence("Promise 20", "200 and a SPACING: its SKY.");
        SparseDishes x = new SparseDishes();
        x.sky(1, 14);
        x.sky(60, 359);
        for (int d = 1; d <= 60; d++) {
            Check.due("told(200 + " + d + ")", x.told(200 + d), d == 1 ? 14 : d == 60 ? 359 : 0);
        }
    }

    static void thereIsNothingElseToBeAsked() {
        Check.sentence("Promise 20", "OUTSIDE.");
        SparseDishes x = Check.dishesAt(0, 60);
        Check.dueOfAll("told", x::told, Check.OUTSIDE, -1, 7, 8, 64, 99, 161, 162, 199, 200, 261, 262, 300, 1000,
            Check.MIN, Check.MIN + 100, Check.MIN + 201, Check.MAX, Check.MAX - 1);
    }
}

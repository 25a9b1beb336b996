/** Terms, part 2: what was searched once. */
public final class Terms2KnownTest {
    private static final String WORDS =
        "What was searched is known from then on: no SEARCH is done twice.";

    public static void main(String[] args) {
        Check.run(Terms2KnownTest.class);
    }

    static void whateverIsAskedOfOneItIsSearchedOnce() {
        Check.sentence("Terms 2", WORDS);
        SparseDishes x = new SparseDishes();
        for (int round = 0; round < 2; round++) {
            for (int what = 0; what <= 2; what++) {
                x.ruler(4, what);
                x.cover(6, what);
            }
            for (int what = 10; what <= 15; what++) {
                x.ruler(4, what);
                x.cover(6, what);
            }
        }
        Check.due("told(1)", x.told(1), 2);
        Check.due("told(2)", x.told(2), 19 + 13);
    }

    static void allMayBeSearchedAndEachIsOnce() {
        Check.sentence("Terms 2", WORDS);
        SparseDishes x = new SparseDishes();
        for (int round = 0; round < 2; round++) {
            for (int n = 2; n <= 7; n++) x.ruler(n, 0);
            for (int length = 1; length <= 20; length++) x.cover(length, 0);
        }
        Check.due("told(1)", x.told(1), 26);
        Check.due("told(2)", x.told(2), 173631);
    }

    static void standSearchesWhatIsNotKnownAndNothingElse() {
        Check.sentence("Terms 2", WORDS);
        SparseDishes x = new SparseDishes();
        x.stand(0, 4, 0);
        Check.due("told(1)", x.told(1), 1);
        Check.due("told(2)", x.told(2), 19);
        x.stand(0, 4, 7);
        x.ruler(4, 1);
        Check.due("told(1)", x.told(1), 1);
        x.cover(6, 0);
        x.stand(1, 6, 0);
        Check.due("told(1)", x.told(1), 2);
        Check.due("told(2)", x.told(2), 19 + 13);
    }

    static void aRulerIsNotACoverOfThatNumber() {
        Check.sentence("Terms 2", WORDS);
        SparseDishes x = new SparseDishes();
        x.ruler(4, 0);
        x.cover(4, 0);
        Check.due("told(1)", x.told(1), 2);
        Check.due("told(2)", x.told(2), 19 + 6);
        Check.due("ruler(4, 1)", x.ruler(4, 1), 2);
        Check.due("cover(4, 1)", x.cover(4, 1), 3);
    }

    static void noUndoAndNoRestoreMakesItUnknown() {
        Check.sentence("Terms 2", WORDS);
        SparseDishes x = new SparseDishes();
        x.put(0);
        x.image(0);
        x.ruler(4, 0);
        x.cover(6, 0);
        x.put(1);
        x.undo();
        x.lift(0);
        x.restore(0);
        x.ruler(4, 0);
        x.cover(6, 0);
        Check.due("told(1)", x.told(1), 2);
        Check.due("told(2)", x.told(2), 19 + 13);
    }
}

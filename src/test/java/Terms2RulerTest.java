/** Terms, part 2: RULERS, and their SEARCH. */
public final class Terms2RulerTest {
    private static final String FROM =
        "Its SEARCH: for L from n times n less 1, halved, on: RULERS that end at L, by MARKS one behind another:";
    private static final String MARK = "a MARK is each number, rising, from that behind the last one on, "
        + "to L less r times r and 1, halved, where r is how many are to come behind it";
    private static final String TRY = "each one is a TRY; if a SPACING to one ahead is there already, "
        + "or two of these are alike, it is none; else there are the ones behind it.";
    private static final String SHORTEST =
        "The first L by which there are RULERS is the SHORTEST; all of that L are searched.";

    public static void main(String[] args) {
        Check.run(Terms2RulerTest.class);
    }

    static void rulersOf2To7MarksThereAreNoOthers() {
        Check.sentence("Terms 2", "A RULER of n MARKS (2 to 7):");
        SparseDishes x = new SparseDishes();
        Check.due("ruler(1, 0)", x.ruler(1, 0), Check.OUTSIDE);
        for (int n = 2; n <= 7; n++) {
            Check.due("ruler(" + n + ", 10 + n - 1) is its end", x.ruler(n, 9 + n), x.ruler(n, 0));
            Check.due("ruler(" + n + ", 10 + n)", x.ruler(n, 10 + n), Check.NONE);
        }
        Check.due("ruler(8, 0)", x.ruler(8, 0), Check.OUTSIDE);
    }

    static void marksRiseFrom0AndNoTwoSpacingsAreAlike() {
        Check.sentence("Terms 2", "0, and rising numbers, no two SPACINGS of which are alike.");
        SparseDishes x = new SparseDishes();
        for (int n = 2; n <= 7; n++) {
            Check.due("ruler(" + n + ", 10)", x.ruler(n, 10), 0);
            for (int i = 1; i < n; i++) {
                Check.holds("ruler(" + n + "): MARK " + i + " rises", x.ruler(n, 10 + i) > x.ruler(n, 9 + i));
            }
            x.stand(0, n, 0);
            Check.due("a ruler of " + n + ": DISHES", x.facts(0), n);
            Check.due("a ruler of " + n + ": REPEATS", x.facts(4), 0);
        }
    }

    static void theFirstEndTriedIsTheLeast() {
        Check.sentence("Terms 2", FROM);
        SparseDishes x = new SparseDishes();
        Check.row("the first end has rulers: SHORTEST of n =", n -> x.ruler(n, 0), 2, 1, 3, 6);
        Check.row("TRIES of that end alone: n =", n -> x.ruler(n, 2), 2, 1, 4, 19);
    }

    static void endsInVainAreTriedAndCounted() {
        Check.sentence("Terms 2", FROM);
        SparseDishes x = new SparseDishes();
        Check.due("ruler(5, 2): 10 in vain, 11", x.ruler(5, 2), 103 + 156);
        Check.due("ruler(6, 2): 15, 16 in vain, 17", x.ruler(6, 2), 572 + 894 + 1316);
        Check.due("ruler(7, 2): 21 to 24 in vain, 25", x.ruler(7, 2), 3235 + 4915 + 7238 + 10374 + 14521);
    }

    /** Of 3 MARKS up to 3: 1 and 2 are tried, and behind each of them 3. */
    static void theMarksTriedLeaveRoomForThoseToCome() {
        Check.sentence("Terms 2", MARK);
        Check.due("ruler(3, 2)", new SparseDishes().ruler(3, 2), 4);
    }

    static void theLastMarkIsTheEndAlone() {
        Check.sentence("Terms 2", MARK + " (the last one is L alone, if that is greater than the one before it);");
        SparseDishes x = new SparseDishes();
        Check.due("ruler(2, 2): 1 alone", x.ruler(2, 2), 1);
        Check.row("the end is the last MARK: n =", n -> x.ruler(n, 9 + n), 2, 1, 3, 6, 11, 17, 25);
    }

    /**
     * Of 4 MARKS up to 6: behind 1 are tried 2 (none: 1 is there), 3, 4, 5, and behind these three 6, which makes 8
     * with the 1; behind 2 are 3, 4 (none), 5, and behind two of these 6, which makes 6; behind 3 are 4 and 5 with 6
     * behind each of them, which makes 5.
     */
    static void eachNumberIsOneTryAndNoneHasNoneBehindIt() {
        Check.sentence("Terms 2", TRY);
        Check.due("ruler(4, 2)", new SparseDishes().ruler(4, 2), 8 + 6 + 5);
    }

    static void triesOfAllRulersAreAsThePlainSearchTellsThem() {
        Check.sentence("Terms 2", TRY);
        SparseDishes x = new SparseDishes();
        for (int n = 7; n >= 2; n--) {
            PlainSearch due = PlainSearch.ofRuler(n);
            for (int what = 0; what <= 2; what++) {
                Check.due("ruler(" + n + ", " + what + ")", x.ruler(n, what), due.answer(what));
            }
            for (int i = 0; i <= 9; i++) {
                Check.due("ruler(" + n + ", 10 + " + i + ")", x.ruler(n, 10 + i), due.answer(10 + i));
            }
        }
    }

    static void theShortestIsTheFirstEndThatHasRulers() {
        Check.sentence("Terms 2", SHORTEST);
        SparseDishes x = new SparseDishes();
        Check.row("SHORTEST of n =", n -> x.ruler(n, 0), 2, 1, 3, 6, 11, 17, 25);
    }

    static void allOfTheShortestAreSearched() {
        Check.sentence("Terms 2", SHORTEST);
        SparseDishes x = new SparseDishes();
        Check.row("how many of n =", n -> x.ruler(n, 1), 2, 1, 2, 2, 4, 8, 10);
    }
}

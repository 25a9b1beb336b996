/** Terms, part 2: COVERS, and their SEARCH. */
public final class Terms2CoverTest {
    private static final String FROM = "Its SEARCH: for m MARKS in all, from the least m on of which m times m less 1, "
        + "halved, is no less than L:";
    private static final String MARK = "first 0, L; then one behind another, rising, "
        + "each number from that behind the last one of these on (first: 1) to L less 1;";
    private static final String TRY = "each one is a TRY; if more lengths lack then (of 1 to L) than r times k, "
        + "and r times r less 1, halved, where k is how many MARKS there are now, r how many are to come, it is none; "
        + "else there are the ones behind it;";
    private static final String FEWEST =
        "The first m by which there are COVERS is the FEWEST; all of that m are searched.";

    public static void main(String[] args) {
        Check.run(Terms2CoverTest.class);
    }

    static void coversOfLengths1To20ThereAreNoOthers() {
        Check.sentence("Terms 2", "A COVER of a length L (1 to 20):");
        SparseDishes x = new SparseDishes();
        Check.due("cover(0, 0)", x.cover(0, 0), Check.OUTSIDE);
        for (int length = 1; length <= 20; length++) {
            int last = x.cover(length, 0) - 1;
            Check.due("cover(" + length + "): its last MARK", x.cover(length, 10 + last), length);
            Check.due("cover(" + length + "): behind that", x.cover(length, 11 + last), Check.NONE);
        }
        Check.due("cover(21, 0)", x.cover(21, 0), Check.OUTSIDE);
    }

    static void eachLengthUpToThatIsASpacing() {
        Check.sentence("Terms 2", "0, L, and MARKS between, so that each length 1 to L is a SPACING.");
        SparseDishes x = new SparseDishes();
        for (int length = 1; length <= 20; length++) {
            Check.due("stand(1, " + length + ", 0)", x.stand(1, length, 0), x.cover(length, 0));
            Check.due("cover(" + length + "): the first MARK", x.cover(length, 10), 0);
            Check.due("cover(" + length + "): SPAN", x.facts(1), length);
            Check.due("cover(" + length + "): REACH", x.facts(2), length);
            Check.due("cover(" + length + "): MISSING", x.facts(3), 0);
        }
    }

    /** 1, 3, 6 and 10 are just what 2, 3, 4 and 5 MARKS may have of SPACINGS; by 10 there is none, all the same. */
    static void theFirstNumberOfMarksTriedIsTheLeastThatMayDo() {
        Check.sentence("Terms 2", FROM);
        SparseDishes x = new SparseDishes();
        Check.due("cover(1, 0)", x.cover(1, 0), 2);
        Check.due("cover(2, 0)", x.cover(2, 0), 3);
        Check.due("cover(3, 0)", x.cover(3, 0), 3);
        Check.due("cover(4, 0)", x.cover(4, 0), 4);
        Check.due("cover(6, 0)", x.cover(6, 0), 4);
        Check.due("cover(7, 0)", x.cover(7, 0), 5);
        Check.due("cover(2, 2): 3 MARKS at once", x.cover(2, 2), 1);
        Check.due("cover(3, 2): 3 MARKS at once", x.cover(3, 2), 2);
        Check.due("cover(6, 2): 4 MARKS at once", x.cover(6, 2), 13);
        Check.due("cover(11, 2): 6 MARKS at once", x.cover(11, 2), 385);
    }

    static void numbersOfMarksInVainAreTriedAndCounted() {
        Check.sentence("Terms 2", FROM);
        SparseDishes x = new SparseDishes();
        Check.due("cover(10, 2): 5 in vain, 6", x.cover(10, 2), 75 + 255);
        Check.due("cover(14, 2): 6 in vain, 7", x.cover(14, 2), 685 + 2347);
        Check.due("cover(15, 2): 6 in vain, 7", x.cover(15, 2), 582 + 3413);
        Check.due("cover(20, 2): 7 in vain, 8", x.cover(20, 2), 4356 + 41184);
    }

    static void theMarksTriedAre1ToOneLessThanTheLength() {
        Check.sentence("Terms 2", MARK);
        SparseDishes x = new SparseDishes();
        Check.due("cover(2, 2): 1", x.cover(2, 2), 1);
        Check.due("cover(2, 11)", x.cover(2, 11), 1);
        Check.due("cover(3, 2): 1, 2", x.cover(3, 2), 2);
        Check.due("cover(3, 1): both are", x.cover(3, 1), 2);
    }

    /** Of 4 with 4 MARKS: 1 with 2 and 3 behind it, 2 with 3, 3 with none. */
    static void theMarksTriedRise() {
        Check.sentence("Terms 2", MARK);
        Check.due("cover(4, 2)", new SparseDishes().cover(4, 2), 3 + 2 + 1);
    }

    /**
     * Of 6 with 4 MARKS: 1 to 5 are tried; with 1, 2, 4 and 5 just so many lack as the one to come may bring, 3; with
     * 3 there lack 4; so behind 1 are 4, behind 2 are 3, behind 4 is 1, behind 3 none.
     */
    static void asManyMayLackAsThoseToComeMayBringNotOneMore() {
        Check.sentence("Terms 2", TRY);
        Check.due("cover(6, 2)", new SparseDishes().cover(6, 2), 5 + 4 + 3 + 1);
    }

    static void triesOfAllCoversAreAsThePlainSearchTellsThem() {
        Check.sentence("Terms 2", TRY);
        SparseDishes x = new SparseDishes();
        for (int length = 20; length >= 1; length--) {
            PlainSearch due = PlainSearch.ofCover(length);
            for (int what = 0; what <= 2; what++) {
                Check.due("cover(" + length + ", " + what + ")", x.cover(length, what), due.answer(what));
            }
            for (int i = 0; i <= 9; i++) {
                Check.due("cover(" + length + ", 10 + " + i + ")", x.cover(length, 10 + i), due.answer(10 + i));
            }
        }
    }

    /** Of 9 with 5 MARKS: 86 are tried, and of those with none to come only 4 lack no length. */
    static void withNoneToComeNoLengthMayLack() {
        Check.sentence("Terms 2", "if none is to come, it is a COVER if no length lacks.");
        SparseDishes x = new SparseDishes();
        Check.row("how many of length", length -> x.cover(length, 1), 1, 1, 1, 2, 3, 4, 2, 12, 8, 4, 38);
    }

    static void theFewestAreTheFirstNumberThatHasCovers() {
        Check.sentence("Terms 2", FEWEST);
        SparseDishes x = new SparseDishes();
        Check.row("FEWEST of length", length -> x.cover(length, 0), 1,
            2, 3, 3, 4, 4, 4, 5, 5, 5, 6, 6, 6, 6, 7, 7, 7, 7, 8, 8, 8);
    }

    static void allOfTheFewestAreSearched() {
        Check.sentence("Terms 2", FEWEST);
        SparseDishes x = new SparseDishes();
        Check.row("how many of length", length -> x.cover(length, 1), 11,
            30, 14, 6, 130, 80, 32, 12, 500, 326, 150);
    }

    static void withTwoMarksThereIsNoTry() {
        Check.sentence("Terms 2", "(If m is 2, there is no TRY: it is one, if no length lacks.)");
        SparseDishes x = new SparseDishes();
        Check.due("cover(1, 2)", x.cover(1, 2), 0);
        Check.due("cover(1, 1)", x.cover(1, 1), 1);
        Check.due("cover(1, 0)", x.cover(1, 0), 2);
        Check.due("cover(1, 10)", x.cover(1, 10), 0);
        Check.due("cover(1, 11)", x.cover(1, 11), 1);
        Check.due("cover(1, 12)", x.cover(1, 12), Check.NONE);
        Check.due("told(1): it was a SEARCH, all the same", x.told(1), 1);
        Check.due("told(2)", x.told(2), 0);
    }
}

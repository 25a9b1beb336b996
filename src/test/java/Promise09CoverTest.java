/** Promise 9: cover. */
public final class Promise09CoverTest {
    private static final String MARKS = "the i-th MARK of the first one, rising, by MARKS between (10 and i; NONE).";
    private static final String LIKEWISE = "OUTSIDE, likewise.";

    public static void main(String[] args) {
        Check.run(Promise09CoverTest.class);
    }

    static void theFewest() {
        Check.sentence("Promise 9", "COVERS of a length: the FEWEST (what = 0),");
        SparseDishes x = new SparseDishes();
        Check.row("cover(length, 0): length =", length -> x.cover(length, 0), 1,
            2, 3, 3, 4, 4, 4, 5, 5, 5, 6, 6, 6, 6, 7, 7, 7, 7, 8, 8, 8);
    }

    static void howManyThereAre() {
        Check.sentence("Promise 9", "how many there are (1),");
        SparseDishes x = new SparseDishes();
        Check.row("cover(length, 1): length =", length -> x.cover(length, 1), 1,
            1, 1, 2, 3, 4, 2, 12, 8, 4, 38, 30, 14, 6, 130, 80, 32, 12, 500, 326, 150);
    }

    static void tries() {
        Check.sentence("Promise 9", "TRIES (2),");
        SparseDishes x = new SparseDishes();
        Check.row("cover(length, 2): length =", length -> x.cover(length, 2), 1,
            0, 1, 2, 6, 10, 13, 41, 63, 86, 330, 385, 526, 702, 3032, 3995, 4620, 6030, 27852, 37049, 45540);
    }

    static void eachMarkOfTheFirstOne() {
        Check.sentence("Promise 9", MARKS);
        SparseDishes x = new SparseDishes();
        Check.row("cover(1, what)", what -> x.cover(1, what), 10, 0, 1, Check.NONE);
        Check.row("cover(2, what)", what -> x.cover(2, what), 10, 0, 1, 2, Check.NONE);
        Check.row("cover(3, what)", what -> x.cover(3, what), 10, 0, 1, 3, Check.NONE);
        Check.row("cover(4, what)", what -> x.cover(4, what), 10, 0, 1, 2, 4, Check.NONE);
        Check.row("cover(6, what)", what -> x.cover(6, what), 10, 0, 1, 4, 6, Check.NONE);
        Check.row("cover(9, what)", what -> x.cover(9, what), 10, 0, 1, 2, 6, 9, Check.NONE);
        Check.row("cover(17, what)", what -> x.cover(17, what), 10, 0, 1, 2, 3, 8, 13, 17, Check.NONE);
        Check.row("cover(20, what)", what -> x.cover(20, what), 10, 0, 1, 2, 3, 4, 10, 15, 20, Check.NONE);
    }

    static void behindTheLastMarkThereIsNone() {
        Check.sentence("Promise 9", MARKS);
        SparseDishes x = new SparseDishes();
        for (int length = 1; length <= 20; length++) {
            int asked = length;
            int marks = x.cover(length, 0);
            Check.due("cover(" + length + "), the last MARK", x.cover(length, 9 + marks), length);
            Check.dueOfAll("cover(" + length + ", what)", what -> x.cover(asked, what), Check.NONE,
                10 + marks, 11 + marks, 70, 74, 100, 65546, Check.MAX - 1, Check.MAX);
        }
    }

    /** NONE is an answer, and no refusal. */
    static void whereThereIsNoMarkItIsSearchedAllTheSame() {
        Check.sentence("Promise 9", MARKS);
        SparseDishes x = new SparseDishes();
        Check.due("cover(6, 14)", x.cover(6, 14), Check.NONE);
        Check.due("told(1)", x.told(1), 1);
        Check.due("told(2)", x.told(2), 13);
    }

    static void lengthsBelow1AndAbove20AreOutside() {
        Check.sentence("Promise 9", LIKEWISE);
        SparseDishes x = new SparseDishes();
        for (int what : new int[] {0, 1, 2, 10}) {
            Check.dueOfAll("cover(length, " + what + ")", length -> x.cover(length, what), Check.OUTSIDE,
                0, 21, -1, 22, 33, 52, 60, -63, Check.MIN, Check.MIN + 1, Check.MAX);
        }
        Check.due("told(1): nothing is searched", x.told(1), 0);
        Check.due("the least that is taken: cover(1, 0)", x.cover(1, 0), 2);
        Check.due("the greatest that is taken: cover(20, 0)", x.cover(20, 0), 8);
    }

    static void whatIs3To9OrLessThan0IsOutside() {
        Check.sentence("Promise 9", LIKEWISE);
        SparseDishes x = new SparseDishes();
        Check.dueOfAll("cover(3, what)", what -> x.cover(3, what), Check.OUTSIDE,
            -1, 3, 4, 5, 6, 7, 8, 9, -2, -10, -64, Check.MIN, Check.MIN + 10);
        Check.due("told(1): nothing is searched", x.told(1), 0);
        Check.due("told(5)", x.told(5), 0);
        Check.due("2 is taken: cover(3, 2)", x.cover(3, 2), 2);
        Check.due("10 is taken: cover(3, 10)", x.cover(3, 10), 0);
    }

    static void bothMayBeOutside() {
        Check.sentence("Promise 9", LIKEWISE);
        SparseDishes x = new SparseDishes();
        Check.due("cover(0, -1)", x.cover(0, -1), Check.OUTSIDE);
        Check.due("cover(21, 9)", x.cover(21, 9), Check.OUTSIDE);
    }
}

/** Promise 7: facts. */
public final class Promise07FactsTest {
    private static final String LEAST_MISSING = "the least length that is MISSING (5; NONE),";
    private static final String MOST_OFTEN =
        "the length that is there most often (6; the least of as often; NONE: none is).";

    public static void main(String[] args) {
        Check.run(Promise07FactsTest.class);
    }

    static void dishes() {
        Check.sentence("Promise 7", "DISHES (what = 0),");
        SparseDishes x = new SparseDishes();
        Check.due("none: facts(0)", x.facts(0), 0);
        for (int s = 1; s <= 12; s++) {
            x.put(s);
            Check.due(s + " came: facts(0)", x.facts(0), s);
        }
        x.put(13);
        Check.due("one refused: facts(0)", x.facts(0), 12);
        x.lift(1);
        Check.due("one went: facts(0)", x.facts(0), 11);
    }

    static void span() {
        Check.sentence("Promise 7", "SPAN (1),");
        Check.due("facts(1)", Check.dishesAt(3, 60, 50).facts(1), 57);
        Check.due("none: facts(1)", new SparseDishes().facts(1), 0);
    }

    static void reach() {
        Check.sentence("Promise 7", "REACH (2),");
        Check.due("facts(2)", Check.dishesAt(3, 4, 6, 60).facts(2), 3);
        Check.due("none: facts(2)", new SparseDishes().facts(2), 0);
    }

    static void missing() {
        Check.sentence("Promise 7", "MISSING (3),");
        Check.due("facts(3)", Check.dishesAt(3, 4, 6, 13).facts(3), 4);
        Check.due("none: facts(3)", new SparseDishes().facts(3), 0);
    }

    static void repeats() {
        Check.sentence("Promise 7", "REPEATS (4),");
        Check.due("facts(4)", Check.dishesAt(3, 4, 5, 6).facts(4), 3);
        Check.due("none: facts(4)", new SparseDishes().facts(4), 0);
    }

    static void theLeastThatIsMissing() {
        Check.sentence("Promise 7", LEAST_MISSING);
        Check.due("1 lacks: facts(5)", Check.dishesAt(0, 60).facts(5), 1);
        Check.due("1 lacks, and others: facts(5)", Check.dishesAt(0, 2, 5).facts(5), 1);
        Check.due("2 lacks: facts(5)", Check.dishesAt(0, 1, 60).facts(5), 2);
        Check.due("4 lacks, 5 is the SPAN: facts(5)", Check.dishesAt(0, 2, 3, 5).facts(5), 4);
        Check.due("2 lacks, and 5: facts(5)", Check.dishesAt(1, 2, 5, 8).facts(5), 2);
    }

    static void noneIsMissing() {
        Check.sentence("Promise 7", LEAST_MISSING);
        Check.due("none: facts(5)", new SparseDishes().facts(5), Check.NONE);
        Check.due("one: facts(5)", Check.dishesAt(60).facts(5), Check.NONE);
        Check.due("1 of 1: facts(5)", Check.dishesAt(59, 60).facts(5), Check.NONE);
        Check.due("all of 6: facts(5)", Check.dishesAt(0, 1, 4, 6).facts(5), Check.NONE);
        SparseDishes x = Check.dishesAt(0, 1, 3, 6, 13, 20, 27, 34, 41, 45, 49, 50);
        Check.due("all of 50: facts(5)", x.facts(5), Check.NONE);
    }

    static void theLengthThatIsThereMostOften() {
        Check.sentence("Promise 7", MOST_OFTEN);
        Check.due("60 alone: facts(6)", Check.dishesAt(0, 60).facts(6), 60);
        Check.due("20 three times: facts(6)", Check.dishesAt(0, 20, 40, 60).facts(6), 20);
        Check.due("3 twice, 1 once: facts(6)", Check.dishesAt(1, 2, 5, 8).facts(6), 3);
        Check.due("twelve at fives: facts(6)", Check.twelve().facts(6), 5);
    }

    static void ofAsOftenTheLeast() {
        Check.sentence("Promise 7", MOST_OFTEN);
        Check.due("each of 1 to 6 once: facts(6)", Check.dishesAt(0, 1, 4, 6).facts(6), 1);
        Check.due("2 and 4 twice: facts(6)", Check.dishesAt(0, 2, 4, 7, 8).facts(6), 2);
        Check.due("29, 31 and 60 once: facts(6)", Check.dishesAt(0, 29, 60).facts(6), 29);
    }

    static void noLengthIsThere() {
        Check.sentence("Promise 7", MOST_OFTEN);
        Check.due("none: facts(6)", new SparseDishes().facts(6), Check.NONE);
        Check.due("one: facts(6)", Check.dishesAt(0).facts(6), Check.NONE);
        SparseDishes x = Check.dishesAt(0, 60);
        x.lift(0);
        Check.due("one of two went: facts(6)", x.facts(6), Check.NONE);
    }

    static void thereIsNothingElseToBeAsked() {
        Check.sentence("Promise 7", "OUTSIDE.");
        SparseDishes x = Check.dishesAt(0, 1);
        Check.dueOfAll("facts", x::facts, Check.OUTSIDE, -1, 7, 8, 10, 64, -7, 256, Check.MIN, Check.MAX);
        Check.dueOfAll("no DISH: facts", new SparseDishes()::facts, Check.OUTSIDE, -1, 7);
    }
}

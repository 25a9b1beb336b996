/** Promise 16: missed. */
public final class Promise16MissedTest {
    public static void main(String[] args) {
        Check.run(Promise16MissedTest.class);
    }

    static void whichIsMissedTheMostAndSoOn() {
        Check.sentence("Promise 16", "The STATION of the i-th DISH that is MISSED;");
        SparseDishes x = Check.dishesAt(0, 1, 2, 3, 4, 10);
        Check.row("missed", x::missed, 0, 0, 4, 1, 2, 3, 10);
        x.lift(10);
        Check.row("without 10: missed", x::missed, 0, 0, 4, 1, 2, 3, Check.NONE);
        x.stand(1, 13, 20);
        Check.due("a cover: missed(0)", x.missed(0), 21);
    }

    static void ofOneAloneItIsThatOne() {
        Check.sentence("Promise 16", "The STATION of the i-th DISH that is MISSED;");
        Check.row("0: missed", Check.dishesAt(0)::missed, 0, 0, Check.NONE);
        Check.row("60: missed", Check.dishesAt(60)::missed, 0, 60, Check.NONE);
        Check.row("59, 60: missed", Check.dishesAt(60, 59)::missed, 0, 59, 60, Check.NONE);
    }

    static void behindTheLastThereIsNone() {
        Check.sentence("Promise 16", "NONE.");
        Check.due("no DISH: missed(0)", new SparseDishes().missed(0), Check.NONE);
        SparseDishes x = Check.dishesAt(0, 1, 60);
        Check.due("missed(2)", x.missed(2), 60);
        Check.dueOfAll("missed", x::missed, Check.NONE, 3, 4, 12, 60, 64, 65536, Check.MAX);
        SparseDishes y = Check.twelve();
        Check.due("twelve: missed(11)", y.missed(11), 55);
        Check.due("twelve: missed(12)", y.missed(12), Check.NONE);
    }

    static void belowTheFirstThereIsNone() {
        Check.sentence("Promise 16", "NONE.");
        SparseDishes x = Check.dishesAt(0, 1, 60);
        Check.dueOfAll("missed", x::missed, Check.NONE, -1, -2, -64, Check.MIN, Check.MIN + 1);
        Check.due("no DISH: missed(-1)", new SparseDishes().missed(-1), Check.NONE);
    }
}

/** Promise 17: sure. */
public final class Promise17SureTest {
    public static void main(String[] args) {
        Check.run(Promise17SureTest.class);
    }

    static void ofNoneAndOfFew() {
        Check.sentence("Promise 17", "SURE.");
        Check.due("no DISH: sure()", new SparseDishes().sure(), 0);
        Check.due("one: sure()", Check.dishesAt(60).sure(), 0);
        Check.due("two: sure()", Check.dishesAt(59, 60).sure(), 0);
        Check.due("three: sure()", Check.dishesAt(58, 59, 60).sure(), 0);
        Check.due("four: sure()", Check.dishesAt(57, 58, 59, 60).sure(), 2);
    }

    static void ofMany() {
        Check.sentence("Promise 17", "SURE.");
        SparseDishes x = new SparseDishes();
        for (int s = 0; s < 12; s++) x.put(s);
        Check.due("twelve in a row: sure()", x.sure(), 10);
        x.lift(5);
        Check.due("eleven: sure()", x.sure(), 10);
        Check.due("twelve at fives: sure()", Check.twelve().sure(), 0);
    }

    static void itIsWhatIsLeftWithoutTheFirstThatIsMissed() {
        Check.sentence("Promise 17", "SURE.");
        SparseDishes x = Check.dishesAt(0, 1, 2, 3, 4, 10);
        Check.due("sure()", x.sure(), 3);
        Check.due("left(missed(0))", x.left(x.missed(0)), 3);
    }
}

/** Promises 15 to 17: left, missed, sure. */
public final class LeftTest {
    private static final int MIN = Integer.MIN_VALUE, MAX = Integer.MAX_VALUE;

    public static void main(String[] args) {
        few();
        left();
        missed();
        many();
        Check.end();
    }

    private static void few() {
        SparseDishes x = new SparseDishes();
        Check.due("sure(): no DISH", x.sure(), 0);
        Check.due("missed(0): no DISH", x.missed(0), SparseDishes.NONE);
        Check.due("left(0): no DISH", x.left(0), SparseDishes.UNKNOWN);
        x.put(60);
        Check.due("sure(): one", x.sure(), 0);
        Check.due("missed(0): one", x.missed(0), 60);
        Check.due("left(60): one", x.left(60), 0);
        x.put(59);
        Check.due("missed(0): two", x.missed(0), 59);
        Check.due("missed(1): two", x.missed(1), 60);
        Check.due("left(59)", x.left(59), 0);
    }

    private static void left() {
        SparseDishes x = Check.dishesAt(0, 1, 2, 3, 4, 10);
        int[] stations = {0, 1, 2, 3, 4, 10};
        int[] due = {3, 4, 4, 4, 3, 4};
        for (int i = 0; i < 6; i++) Check.due("left(" + stations[i] + ")", x.left(stations[i]), due[i]);
        int[] unknown = {5, -1, 61, 64, MIN, MAX};
        for (int s : unknown) Check.due("left(" + s + ")", x.left(s), SparseDishes.UNKNOWN);
        Check.stations("it is only asked", x, 0, 1, 2, 3, 4, 10);
        Check.due("told(0)", x.told(0), 6);
    }

    private static void missed() {
        SparseDishes x = Check.dishesAt(0, 1, 2, 3, 4, 10);
        int[] due = {0, 4, 1, 2, 3, 10};
        for (int i = 0; i < 6; i++) Check.due("missed(" + i + ")", x.missed(i), due[i]);
        int[] none = {-1, 6, 60, 64, MIN, MAX};
        for (int i : none) Check.due("missed(" + i + ")", x.missed(i), SparseDishes.NONE);
        Check.due("sure()", x.sure(), 3);
        x.lift(10);
        Check.due("missed(0)", x.missed(0), 0);
        Check.due("missed(1)", x.missed(1), 4);
        Check.due("missed(5)", x.missed(5), SparseDishes.NONE);
    }

    private static void many() {
        SparseDishes x = new SparseDishes();
        for (int s = 0; s < 12; s++) x.put(s);
        Check.due("sure()", x.sure(), 10);
        Check.due("missed(0)", x.missed(0), 0);
        Check.due("missed(1)", x.missed(1), 11);
        for (int i = 2; i < 12; i++) Check.due("missed(" + i + ")", x.missed(i), i - 1);
        Check.due("left(5)", x.left(5), 11);
        x.stand(1, 13, 20);
        Check.due("missed(0): a cover", x.missed(0), 21);
        Check.due("sure(): a cover", x.sure(), 0);
    }
}

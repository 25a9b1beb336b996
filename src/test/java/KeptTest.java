/** Promises 18 to 20: image, restore, told. */
public final class KeptTest {
    private static final int MIN = Integer.MIN_VALUE, MAX = Integer.MAX_VALUE;
    private static final int[] NO_IMAGES = {-1, 2, 32, 33, MIN, MAX};

    public static void main(String[] args) {
        image();
        restore();
        restoreLeavesTheRest();
        told();
        Check.end();
    }

    private static void image() {
        SparseDishes x = Check.dishesAt(1, 2);
        for (int k : NO_IMAGES) Check.due("image(" + k + ")", x.image(k), SparseDishes.OUTSIDE);
        Check.due("restore(0): not kept", x.restore(0), SparseDishes.STATE);
        Check.due("restore(1): not kept", x.restore(1), SparseDishes.STATE);
        Check.due("image(1)", x.image(1), 1);
        Check.due("told(0): the LOG stays", x.told(0), 2);
        Check.due("restore(0): not kept", x.restore(0), SparseDishes.STATE);
        Check.due("told(0): refused", x.told(0), 2);
        x.put(3);
        Check.due("image(1): another one", x.image(1), 1);
        x.lift(1);
        Check.due("restore(1)", x.restore(1), 1);
        Check.stations("the latter one", x, 1, 2, 3);
    }

    private static void restore() {
        SparseDishes x = Check.dishesAt(0, 60);
        x.error(60, 5);
        x.sky(60, 6);
        x.image(0);
        x.error(60, 7);
        x.sky(60, 8);
        x.sky(1, 9);
        x.lift(0);
        x.put(30);
        x.image(1);
        Check.due("restore(0)", x.restore(0), 1);
        Check.stations("restored", x, 0, 60);
        Check.due("told(160)", x.told(160), 5);
        Check.due("told(130)", x.told(130), SparseDishes.NONE);
        Check.due("told(260)", x.told(260), 6);
        Check.due("told(201)", x.told(201), 0);
        Check.due("told(0)", x.told(0), 0);
        Check.due("undo()", x.undo(), SparseDishes.NO);
        x.error(60, 100);
        x.sky(60, 100);
        Check.due("restore(1)", x.restore(1), 1);
        Check.stations("restored", x, 30, 60);
        Check.due("told(160)", x.told(160), 7);
        Check.due("told(260)", x.told(260), 8);
        Check.due("told(201)", x.told(201), 9);
        Check.due("restore(0): a second time", x.restore(0), 1);
        Check.due("told(160): what came behind did not touch it", x.told(160), 5);
        Check.due("told(260)", x.told(260), 6);
        for (int k : NO_IMAGES) Check.due("restore(" + k + ")", x.restore(k), SparseDishes.OUTSIDE);
    }

    private static void restoreLeavesTheRest() {
        SparseDishes x = new SparseDishes();
        Check.due("image(0): empty", x.image(0), 1);
        x.put(1);
        x.error(1, 1);
        x.undo();
        x.ruler(4, 0);
        x.cover(2, 0);
        x.restore(0);
        Check.stations("empty again", x);
        Check.due("told(1)", x.told(1), 2);
        Check.due("told(2)", x.told(2), 20);
        Check.due("told(3)", x.told(3), 1);
        Check.due("told(4)", x.told(4), 16);
        Check.due("told(5)", x.told(5), 4);
        Check.due("told(6)", x.told(6), 1);
    }

    private static void told() {
        SparseDishes x = Check.dishesAt(0, 30, 60);
        x.error(0, 11);
        x.error(30, 12);
        x.error(60, 13);
        x.sky(1, 14);
        x.sky(60, 15);
        Check.due("told(100)", x.told(100), 11);
        Check.due("told(130)", x.told(130), 12);
        Check.due("told(160)", x.told(160), 13);
        Check.due("told(129)", x.told(129), SparseDishes.NONE);
        Check.due("told(201)", x.told(201), 14);
        Check.due("told(260)", x.told(260), 15);
        Check.due("told(230)", x.told(230), 0);
        int[] outside = {-1, 7, 8, 99, 161, 199, 200, 261, 300, MIN, MIN + 100, MIN + 201, MAX};
        for (int what : outside) Check.due("told(" + what + ")", x.told(what), SparseDishes.OUTSIDE);
        Check.due("told(6)", x.told(6), 5);
        x.undo();
        x.undo();
        Check.due("told(3)", x.told(3), 2);
        Check.due("told(0)", x.told(0), 4);
    }
}

import java.util.Random;

/** All promises: long runs of calls, each answer held against the plain model's. The seeds are fixed. */
public final class ModelTest {
    private static final int RUNS = 400, CALLS = 512;
    private static final int[] ODD = {-1, -2, 61, 62, 64, 100, 359, 360, Integer.MIN_VALUE, Integer.MAX_VALUE};

    private final Random chance;
    private final SparseDishes x = new SparseDishes();
    private final PlainDishes due = new PlainDishes();
    /** Stations are taken from 0 up to here, so that some runs are dense and others sparse. */
    private final int last;

    private ModelTest(int seed) {
        chance = new Random(seed);
        last = 8 + chance.nextInt(53);
    }

    public static void main(String[] args) {
        for (int seed = 0; seed < RUNS && !Check.anyWrong(); seed++) new ModelTest(seed).run(seed);
        Check.end();
    }

    private void run(int seed) {
        for (int i = 0; i < CALLS && !Check.anyWrong(); i++) oneCall("run " + seed + ", call " + i + ": ");
    }

    private int number(int from, int to) {
        return chance.nextInt(25) == 0 ? ODD[chance.nextInt(ODD.length)] : from + chance.nextInt(to - from + 1);
    }

    private int place() {
        return number(0, last);
    }

    /** Mostly one that stands. */
    private int standing() {
        return chance.nextInt(4) == 0 || due.facts(0) == 0 ? place() : due.station(chance.nextInt(due.facts(0)));
    }

    private int asked() {
        return chance.nextBoolean() ? number(-1, 3) : number(9, 20);
    }

    private int toldOf() {
        int which = chance.nextInt(4);
        return which == 0 ? number(95, 165) : which == 1 ? number(195, 265) : number(-1, 7);
    }

    private void oneCall(String when) {
        int which = chance.nextInt(40);
        if (which < 20) change(when, which);
        else ask(when, which);
        if (which % 8 == 0) for (int what = 0; what <= 6; what++) {
            Check.due(when + "told(" + what + ")", x.told(what), due.told(what));
            Check.due(when + "facts(" + what + ")", x.facts(what), due.facts(what));
        }
    }

    private void change(String when, int which) {
        int a = standing(), b = place(), p = number(0, 359), d = number(1, 60), k = number(0, 1);
        if (which < 8) Check.due(when + "put " + b, x.put(b), due.put(b));
        else if (which < 10) Check.due(when + "lift " + a, x.lift(a), due.lift(a));
        else if (which < 13) Check.due(when + "undo", x.undo(), due.undo());
        else if (which < 16) Check.due(when + "error " + a + " " + p, x.error(a, p), due.error(a, p));
        else if (which < 18) Check.due(when + "sky " + d + " " + p, x.sky(d, p), due.sky(d, p));
        else if (which < 19) Check.due(when + "image " + k, x.image(k), due.image(k));
        else if (chance.nextInt(3) == 0) Check.due(when + "restore " + k, x.restore(k), due.restore(k));
        else if (chance.nextInt(3) == 0) {
            int kind = number(0, 1), n = number(1, kind == 0 ? 8 : 21);
            Check.due(when + "stand " + kind + " " + n + " " + b, x.stand(kind, n, b), due.stand(kind, n, b));
        }
    }

    private void ask(String when, int which) {
        int a = standing(), b = standing(), c = standing(), d = number(0, 61), i = number(-1, 12), w = asked();
        int n = number(1, 8), length = number(0, 21), f = number(-1, 7), t = toldOf();
        if (which < 22) Check.due(when + "station " + i, x.station(i), due.station(i));
        else if (which < 24) Check.due(when + "spacing " + d, x.spacing(d), due.spacing(d));
        else if (which < 26) Check.due(when + "facts " + f, x.facts(f), due.facts(f));
        else if (which < 27) Check.due(when + "ruler " + n + " " + w, x.ruler(n, w), due.ruler(n, w));
        else if (which < 28) Check.due(when + "cover " + length + " " + w, x.cover(length, w), due.cover(length, w));
        else if (which < 30) Check.due(when + "phase " + a + " " + b, x.phase(a, b), due.phase(a, b));
        else if (which < 32) Check.due(when + "closure " + a + " " + b + " " + c, x.closure(a, b, c), due.closure(a, b, c));
        else if (which < 34) Check.due(when + "left " + a, x.left(a), due.left(a));
        else if (which < 36) Check.due(when + "missed " + i, x.missed(i), due.missed(i));
        else if (which < 37) Check.due(when + "sure", x.sure(), due.sure());
        else Check.due(when + "told " + t, x.told(t), due.told(t));
    }
}

import java.util.Random;

/** All promises: long runs of calls, each answer held against the plain model's. The seeds are fixed. */
public final class ModelTest {
    /** Nothing is promised behind the 512th call of an object. */
    private static final int RUNS = 1000, CALLS = 512;
    private static final int[] ODD = {-1, -2, 61, 62, 64, 100, 359, 360, Check.MIN, Check.MAX};

    private final int seed;
    private final Random chance;
    private final SparseDishes x = new SparseDishes();
    private final PlainDishes due = new PlainDishes();
    /** Stations are taken from 0 up to here, so that some runs are dense and others sparse. */
    private final int last;
    private int calls;

    private ModelTest(int seed) {
        this.seed = seed;
        chance = new Random(seed);
        last = 8 + chance.nextInt(53);
    }

    public static void main(String[] args) {
        Check.run(ModelTest.class);
    }

    static void longRunsAreAsThePlainModelTells() {
        Check.sentence("Not promised", "Nothing is promised beyond the answers and state changes described above");
        for (int seed = 0; seed < RUNS && !Check.anyWrong(); seed++) new ModelTest(seed).run();
    }

    private void run() {
        while (calls < CALLS && !Check.anyWrong()) {
            int which = chance.nextInt(40);
            if (which < 20) change(which);
            else ask(which);
            if (which % 8 == 0) askAllTogether();
        }
    }

    private int number(int from, int to) {
        return chance.nextInt(25) == 0 ? ODD[chance.nextInt(ODD.length)] : from + chance.nextInt(to - from + 1);
    }

    private int place() {
        return number(0, last);
    }

    /** Mostly one that stands. */
    private int standing() {
        return chance.nextInt(4) == 0 || due.facts(0) == 0 ? place() : due.station(chance.nextInt(due.facts(0)));
    }

    private int asked() {
        return chance.nextBoolean() ? number(-1, 3) : number(9, 20);
    }

    private int toldOf() {
        int which = chance.nextInt(4);
        return which == 0 ? number(95, 165) : which == 1 ? number(195, 265) : number(-1, 7);
    }

    private void same(String call, int got, int want) {
        calls++;
        Check.due("run " + seed + ", call " + calls + ": " + call, got, want);
    }

    private void askAllTogether() {
        for (int what = 0; what <= 6 && calls + 2 <= CALLS; what++) {
            same("told(" + what + ")", x.told(what), due.told(what));
            same("facts(" + what + ")", x.facts(what), due.facts(what));
        }
    }

    private void change(int which) {
        int a = standing(), b = place(), p = number(0, 359), d = number(1, 60), k = number(0, 1);
        if (which < 8) same("put " + b, x.put(b), due.put(b));
        else if (which < 10) same("lift " + a, x.lift(a), due.lift(a));
        else if (which < 13) same("undo", x.undo(), due.undo());
        else if (which < 16) same("error " + a + " " + p, x.error(a, p), due.error(a, p));
        else if (which < 18) same("sky " + d + " " + p, x.sky(d, p), due.sky(d, p));
        else if (which < 19) same("image " + k, x.image(k), due.image(k));
        else if (chance.nextInt(3) == 0) same("restore " + k, x.restore(k), due.restore(k));
        else if (chance.nextInt(3) == 0) {
            int kind = number(0, 1), n = number(1, kind == 0 ? 8 : 21);
            same("stand " + kind + " " + n + " " + b, x.stand(kind, n, b), due.stand(kind, n, b));
        }
    }

    private void ask(int which) {
        int a = standing(), b = standing(), c = standing(), d = number(0, 61), i = number(-1, 12), w = asked();
        int n = number(1, 8), length = number(0, 21), f = number(-1, 7), t = toldOf();
        if (which < 22) same("station " + i, x.station(i), due.station(i));
        else if (which < 24) same("spacing " + d, x.spacing(d), due.spacing(d));
        else if (which < 26) same("facts " + f, x.facts(f), due.facts(f));
        else if (which < 27) same("ruler " + n + " " + w, x.ruler(n, w), due.ruler(n, w));
        else if (which < 28) same("cover " + length + " " + w, x.cover(length, w), due.cover(length, w));
        else if (which < 30) same("phase " + a + " " + b, x.phase(a, b), due.phase(a, b));
        else if (which < 32) same("closure " + a + " " + b + " " + c, x.closure(a, b, c), due.closure(a, b, c));
        else if (which < 34) same("left " + a, x.left(a), due.left(a));
        else if (which < 36) same("missed " + i, x.missed(i), due.missed(i));
        else if (which < 37) same("sure", x.sure(), due.sure());
        else same("told " + t, x.told(t), due.told(t));
    }
}

import java.lang.reflect.InvocationTargetException;
import java.lang.reflect.Method;
import java.lang.reflect.Modifier;
import java.util.Arrays;
import java.util.Comparator;
import java.util.function.IntUnaryOperator;

/**
 * What all tests share. A test is a static method that takes nothing and is not private; its first line names the
 * promise, or the part of the Terms, and the words of the document that it holds the class against.
 */
final class Check {
    /** Written out once more, so that a wrong constant in the class is not taken over by the tests. */
    static final int UNKNOWN = -1, OUTSIDE = -2, STATE = -3, FULL = -4, NO = -5, NONE = -6;
    static final int MIN = Integer.MIN_VALUE, MAX = Integer.MAX_VALUE;
    /** No station: below, above, and such as would be one if they were left over by 64, 256, or 65536. */
    static final int[] NO_STATIONS =
        {-1, 61, -2, 62, 63, 64, 69, 124, -59, -64, 256, 65536, MIN, MIN + 5, MAX, MAX - 1};
    /** No length: likewise. */
    static final int[] NO_LENGTHS = {0, 61, -1, -60, 62, 63, 64, 65, 74, -63, 257, 65537, MIN, MIN + 1, MAX};
    /** No phase: below, above, and such as would be one if they were left over by 360. */
    static final int[] NO_PHASES = {-1, 360, -359, -360, 361, 719, 720, 512, MIN, MAX};

    /** Far more than any class of tests needs: they end within a few seconds. */
    private static final int MOST_SECONDS = 120;

    private static volatile String sentence;
    private static int looked = 0;
    private static int wrong = 0;

    private Check() {
    }

    /** The first line of each test: where the document says it, and its words there. */
    static void sentence(String where, String words) {
        sentence = where + ", \"" + words + "\": ";
    }

    static void due(String call, long got, long want) {
        looked++;
        if (got != want) tell(call + " answered " + got + ", due is " + want);
    }

    /** That a call answers the same, as is due, for each of these numbers. */
    static void dueOfAll(String call, IntUnaryOperator ask, int want, int... numbers) {
        for (int number : numbers) due(call + " of " + number, ask.applyAsInt(number), want);
    }

    /** That a call answers just these numbers, when it is asked for 0, 1, 2 and so on behind 'from'. */
    static void row(String call, IntUnaryOperator ask, int from, int... want) {
        for (int i = 0; i < want.length; i++) due(call + " of " + (from + i), ask.applyAsInt(from + i), want[i]);
    }

    static void holds(String what, boolean so) {
        looked++;
        if (!so) tell("does not hold: " + what);
    }

    static boolean anyWrong() {
        return wrong > 0;
    }

    /** Does all tests of a class, by their names, and ends the machine with 1 if any answer was wrong. */
    static void run(Class<?> tests) {
        failIfItDoesNotEnd();
        int number = 0;
        for (Method test : byName(tests.getDeclaredMethods())) {
            if (!isTest(test)) continue;
            number++;
            runOne(test);
        }
        if (number == 0) tell(tests.getName() + " has no test");
        System.out.println(number + " tests");
        end();
    }

    static void end() {
        System.out.println(looked + " answers looked at, " + wrong + " not as due");
        if (wrong > 0) System.exit(1);
    }

    /** An object with DISHES at these STATIONS, which came in this order. */
    static SparseDishes dishesAt(int... stations) {
        SparseDishes x = new SparseDishes();
        for (int station : stations) x.put(station);
        return x;
    }

    /** An object with twelve DISHES, at 0, 5, 10 and so on to 55. */
    static SparseDishes twelve() {
        return dishesAt(0, 5, 10, 15, 20, 25, 30, 35, 40, 45, 50, 55);
    }

    /** That the DISHES stand at just these STATIONS. */
    static void stations(String when, SparseDishes x, int... stations) {
        due(when + ": facts(0)", x.facts(0), stations.length);
        row(when + ": station", x::station, 0, stations);
        due(when + ": station(" + stations.length + ")", x.station(stations.length), NONE);
    }

    /** A call that does not end is to be a test that has failed, and not one that is waited for. */
    private static void failIfItDoesNotEnd() {
        Thread watch = new Thread(() -> {
            try {
                Thread.sleep(MOST_SECONDS * 1000L);
            } catch (InterruptedException e) {
                return;
            }
            tell("has not ended in " + MOST_SECONDS + " seconds");
            Runtime.getRuntime().halt(1);
        });
        watch.setDaemon(true);
        watch.start();
    }

    private static void tell(String what) {
        wrong++;
        System.out.println((sentence == null ? "" : sentence) + what);
    }

    private static boolean isTest(Method method) {
        int is = method.getModifiers();
        return Modifier.isStatic(is) && !Modifier.isPrivate(is) && !method.isSynthetic()
            && method.getParameterCount() == 0;
    }

    private static Method[] byName(Method[] methods) {
        Arrays.sort(methods, Comparator.comparing(Method::getName));
        return methods;
    }

    /** A test that throws, names no sentence, or looks at nothing has failed; those behind it are done all the same. */
    private static void runOne(Method test) {
        int before = looked;
        sentence = null;
        try {
            test.invoke(null);
        } catch (InvocationTargetException e) {
            tell(test.getName() + " threw " + e.getCause());
        } catch (IllegalAccessException e) {
            tell(test.getName() + " can not be called");
        }
        if (sentence == null) tell(test.getName() + " names no sentence");
        if (looked == before) tell(test.getName() + " looks at nothing");
    }
}

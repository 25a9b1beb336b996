/** Counts the answers that are not as due, and tells each of them. */
final class Check {
    private static int looked = 0;
    private static int wrong = 0;

    private Check() {
    }

    static void due(String call, long got, long want) {
        looked++;
        if (got == want) return;
        wrong++;
        System.out.println(call + " answered " + got + ", due is " + want);
    }

    static void holds(String what, boolean so) {
        looked++;
        if (so) return;
        wrong++;
        System.out.println("does not hold: " + what);
    }

    static boolean anyWrong() {
        return wrong > 0;
    }

    /** Ends the machine with 1 if any answer was wrong. */
    static void end() {
        System.out.println(looked + " answers looked at, " + wrong + " not as due");
        if (wrong > 0) System.exit(1);
    }

    /** An object with DISHES at these STATIONS. */
    static SparseDishes dishesAt(int... stations) {
        SparseDishes x = new SparseDishes();
        for (int station : stations) x.put(station);
        return x;
    }

    /** That the DISHES stand at just these STATIONS. */
    static void stations(String when, SparseDishes x, int... stations) {
        due(when + ": facts(0)", x.facts(0), stations.length);
        for (int i = 0; i < stations.length; i++) due(when + ": station(" + i + ")", x.station(i), stations[i]);
        due(when + ": station(" + stations.length + ")", x.station(stations.length), SparseDishes.NONE);
    }
}

/** Promise 13: phase. */
public final class Promise13PhaseTest {
    public static void main(String[] args) {
        Check.run(Promise13PhaseTest.class);
    }

    static void thePhaseFromOneToTheOther() {
        Check.sentence("Promise 13", "PHASE.");
        SparseDishes x = Check.dishesAt(60, 0, 10);
        x.sky(60, 100);
        Check.due("phase(0, 60)", x.phase(0, 60), 100);
        Check.due("phase(60, 0)", x.phase(60, 0), 260);
        x.error(60, 359);
        Check.due("phase(0, 60)", x.phase(0, 60), 99);
        x.error(0, 100);
        Check.due("phase(0, 60)", x.phase(0, 60), 359);
        Check.due("phase(60, 0)", x.phase(60, 0), 1);
        x.error(0, 359);
        Check.due("phase(0, 10)", x.phase(0, 10), 1);
        Check.due("phase(10, 0)", x.phase(10, 0), 359);
        Check.due("phase(10, 60)", x.phase(10, 60), 359);
    }

    static void bothMustStand() {
        Check.sentence("Promise 13", "UNKNOWN: both;");
        SparseDishes x = Check.dishesAt(0, 60);
        Check.dueOfAll("phase(0, s)", s -> x.phase(0, s), Check.UNKNOWN, 1, 59);
        Check.dueOfAll("phase(s, 0)", s -> x.phase(s, 0), Check.UNKNOWN, 1, 59);
        Check.dueOfAll("phase(60, s)", s -> x.phase(60, s), Check.UNKNOWN, Check.NO_STATIONS);
        Check.dueOfAll("phase(s, 60)", s -> x.phase(s, 60), Check.UNKNOWN, Check.NO_STATIONS);
        Check.due("phase(1, 2), neither", x.phase(1, 2), Check.UNKNOWN);
        x.lift(60);
        Check.due("gone: phase(0, 60)", x.phase(0, 60), Check.UNKNOWN);
        Check.due("gone: phase(60, 0)", x.phase(60, 0), Check.UNKNOWN);
    }

    static void ofOneThereIsNoPhase() {
        Check.sentence("Promise 13", "NO: they are one.");
        SparseDishes x = Check.dishesAt(0, 30, 60);
        x.error(30, 77);
        Check.dueOfAll("phase(s, s)", s -> x.phase(s, s), Check.NO, 0, 30, 60);
        Check.dueOfAll("phase(s, s), none there", s -> x.phase(s, s), Check.UNKNOWN, 1, 59, 61, -1);
    }
}

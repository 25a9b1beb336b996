/** Terms, part 3: PHASES, ERRORS, SKIES, CLOSURE. */
public final class Terms3PhaseTest {
    private static final String ROUND = "all sums of them are left over by 360, not less than 0.";
    private static final String RISING = "PHASE from a DISH at a to one at b, if b is greater: "
        + "the SKY of b less a, and the ERROR there, less the ERROR here;";
    private static final String CLOSURE = "CLOSURE of three: PHASES from the first to the second, "
        + "from that to the third, from that to the first, added.";

    public static void main(String[] args) {
        Check.run(Terms3PhaseTest.class);
    }

    static void thePhases0And359AreTaken() {
        Check.sentence("Terms 3", "PHASES are 0 to 359;");
        SparseDishes x = Check.dishesAt(0);
        for (int p = 359; p >= 0; p--) {
            Check.due("error(0, " + p + ")", x.error(0, p), p == 359 ? 0 : p + 1);
        }
        Check.due("sky(1, 359)", x.sky(1, 359), 0);
        Check.due("sky(1, 0)", x.sky(1, 0), 359);
        Check.due("told(201)", x.told(201), 0);
    }

    static void noPhaseBelow0OrAbove359IsTaken() {
        Check.sentence("Terms 3", "PHASES are 0 to 359;");
        SparseDishes x = Check.dishesAt(0);
        Check.dueOfAll("error(0, p)", p -> x.error(0, p), Check.OUTSIDE, Check.NO_PHASES);
        Check.dueOfAll("sky(1, p)", p -> x.sky(1, p), Check.OUTSIDE, Check.NO_PHASES);
        Check.due("told(100)", x.told(100), 0);
        Check.due("told(201)", x.told(201), 0);
    }

    static void aSumOf360Is0AndOneMoreIs1() {
        Check.sentence("Terms 3", ROUND);
        SparseDishes x = Check.dishesAt(0, 60);
        x.sky(60, 359);
        Check.due("359: phase(0, 60)", x.phase(0, 60), 359);
        x.error(60, 1);
        Check.due("360: phase(0, 60)", x.phase(0, 60), 0);
        Check.due("360 taken off 0: phase(60, 0)", x.phase(60, 0), 0);
        x.error(60, 2);
        Check.due("361: phase(0, 60)", x.phase(0, 60), 1);
        x.error(60, 359);
        Check.due("718, the greatest: phase(0, 60)", x.phase(0, 60), 358);
        Check.due("718 taken off 0: phase(60, 0)", x.phase(60, 0), 2);
    }

    static void aSumBelow0IsNotLessThan0() {
        Check.sentence("Terms 3", ROUND);
        SparseDishes x = Check.dishesAt(0, 60);
        Check.due("0: phase(0, 60)", x.phase(0, 60), 0);
        Check.due("0 taken off 0: phase(60, 0)", x.phase(60, 0), 0);
        x.error(0, 1);
        Check.due("1 below 0: phase(0, 60)", x.phase(0, 60), 359);
        Check.due("that taken off 0: phase(60, 0)", x.phase(60, 0), 1);
        x.error(0, 359);
        Check.due("359 below 0, the least: phase(0, 60)", x.phase(0, 60), 1);
        Check.due("that taken off 0: phase(60, 0)", x.phase(60, 0), 359);
    }

    static void aClosureGoesRoundMoreThanOnce() {
        Check.sentence("Terms 3", ROUND);
        SparseDishes x = Check.dishesAt(0, 1, 60);
        x.sky(1, 359);
        x.sky(59, 359);
        x.sky(60, 1);
        Check.due("three of 359: closure(0, 1, 60)", x.closure(0, 1, 60), 357);
        Check.due("three of 1: closure(60, 1, 0)", x.closure(60, 1, 0), 3);
        x.sky(1, 120);
        x.sky(59, 120);
        x.sky(60, 240);
        Check.due("360: closure(0, 1, 60)", x.closure(0, 1, 60), 0);
        x.sky(60, 0);
        x.sky(59, 240);
        Check.due("360: closure(0, 1, 60)", x.closure(0, 1, 60), 0);
        x.sky(59, 239);
        Check.due("359: closure(0, 1, 60)", x.closure(0, 1, 60), 359);
    }

    static void theErrorIs0WhenADishComes() {
        Check.sentence("Terms 3", "Each DISH has an ERROR (0, when it comes),");
        SparseDishes x = Check.dishesAt(0, 60);
        Check.due("told(100)", x.told(100), 0);
        Check.due("told(160)", x.told(160), 0);
        x.error(60, 77);
        x.lift(60);
        Check.due("gone: told(160)", x.told(160), Check.NONE);
        x.put(60);
        Check.due("come again: told(160)", x.told(160), 0);
        x.error(0, 78);
        x.stand(0, 2, 0);
        Check.due("come by stand: told(100)", x.told(100), 0);
        Check.due("come by stand: told(101)", x.told(101), 0);
    }

    static void eachDishHasItsOwnError() {
        Check.sentence("Terms 3", "Each DISH has an ERROR (0, when it comes),");
        SparseDishes x = Check.twelve();
        for (int s = 0; s <= 55; s += 5) x.error(s, 359 - s);
        for (int s = 0; s <= 55; s += 5) Check.due("told(100 + " + s + ")", x.told(100 + s), 359 - s);
    }

    static void eachSpacing1To60HasItsOwnSky() {
        Check.sentence("Terms 3", "each SPACING 1 to 60 a SKY (0, at first).");
        SparseDishes x = new SparseDishes();
        for (int d = 1; d <= 60; d++) Check.due("at first: told(200 + " + d + ")", x.told(200 + d), 0);
        for (int d = 1; d <= 60; d++) Check.due("sky(" + d + ", " + (359 - d) + ")", x.sky(d, 359 - d), 0);
        for (int d = 1; d <= 60; d++) Check.due("told(200 + " + d + ")", x.told(200 + d), 359 - d);
        Check.due("sky(0, 1)", x.sky(0, 1), Check.OUTSIDE);
        Check.due("sky(61, 1)", x.sky(61, 1), Check.OUTSIDE);
    }

    static void thePhaseToAGreaterStation() {
        Check.sentence("Terms 3", RISING);
        SparseDishes x = Check.dishesAt(10, 14);
        x.sky(4, 200);
        Check.due("the SKY: phase(10, 14)", x.phase(10, 14), 200);
        x.error(14, 50);
        Check.due("and the ERROR there: phase(10, 14)", x.phase(10, 14), 250);
        x.error(10, 7);
        Check.due("less the ERROR here: phase(10, 14)", x.phase(10, 14), 243);
        x.sky(10, 1);
        x.sky(14, 1);
        x.sky(3, 1);
        x.sky(5, 1);
        Check.due("other SKIES do not matter: phase(10, 14)", x.phase(10, 14), 243);
    }

    static void thePhaseOfTheLeastAndTheGreatestSpacing() {
        Check.sentence("Terms 3", RISING);
        SparseDishes x = Check.dishesAt(0, 1, 60);
        x.sky(1, 11);
        x.sky(59, 22);
        x.sky(60, 33);
        Check.due("phase(0, 1)", x.phase(0, 1), 11);
        Check.due("phase(1, 60)", x.phase(1, 60), 22);
        Check.due("phase(0, 60)", x.phase(0, 60), 33);
    }

    static void thePhaseToALesserStationIsTakenOff0() {
        Check.sentence("Terms 3", "else that from b to a, taken off 0.");
        SparseDishes x = Check.dishesAt(10, 14);
        x.sky(4, 200);
        x.error(14, 50);
        x.error(10, 7);
        Check.due("phase(14, 10)", x.phase(14, 10), 360 - 243);
        x.sky(4, 317);
        Check.due("0 taken off 0: phase(14, 10)", x.phase(14, 10), 0);
    }

    static void theClosureAddsThreePhases() {
        Check.sentence("Terms 3", CLOSURE);
        SparseDishes x = Check.dishesAt(5, 8, 15);
        x.sky(3, 10);
        x.sky(7, 20);
        x.sky(10, 300);
        Check.due("closure(5, 8, 15)", x.closure(5, 8, 15), 90);
        Check.due("closure(8, 15, 5)", x.closure(8, 15, 5), 90);
        Check.due("closure(15, 5, 8)", x.closure(15, 5, 8), 90);
        Check.due("closure(15, 8, 5)", x.closure(15, 8, 5), 270);
        Check.due("closure(8, 5, 15)", x.closure(8, 5, 15), 270);
        Check.due("closure(5, 15, 8)", x.closure(5, 15, 8), 270);
    }

    static void errorsDoNotShowRoundThree() {
        Check.sentence("Terms 3", CLOSURE);
        SparseDishes x = Check.dishesAt(0, 1, 60);
        x.sky(1, 359);
        x.sky(59, 359);
        x.sky(60, 1);
        for (int e = 0; e < 360; e += 17) {
            x.error(0, e);
            x.error(1, (7 * e + 3) % 360);
            x.error(60, 359 - e);
            Check.due("with " + e + ": closure(0, 1, 60)", x.closure(0, 1, 60), 357);
            Check.due("with " + e + ": closure(60, 1, 0)", x.closure(60, 1, 0), 3);
        }
    }
}

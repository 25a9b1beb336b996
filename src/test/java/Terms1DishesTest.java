/** Terms, part 1: DISHES, SPACINGS, SPAN, REACH, MISSING, REPEATS. */
public final class Terms1DishesTest {
    private static final String REACH_WORDS =
        "REACH: the greatest number up to which each length from 1 on is there";
    private static final String REPEATS_WORDS =
        "REPEATS: of all lengths that are there, how often they are, less once each, together.";

    public static void main(String[] args) {
        Check.run(Terms1DishesTest.class);
    }

    static void theTwelfthDishIsTakenTheThirteenthIsNot() {
        Check.sentence("Terms 1", "DISHES, 12 at most,");
        SparseDishes x = new SparseDishes();
        for (int s = 0; s < 11; s++) x.put(s);
        Check.due("the twelfth: put(59)", x.put(59), 12);
        Check.due("one more: put(60)", x.put(60), Check.FULL);
        Check.stations("twelve", x, 0, 1, 2, 3, 4, 5, 6, 7, 8, 9, 10, 59);
    }

    static void whenOneOfTwelveGoesAnotherMayCome() {
        Check.sentence("Terms 1", "DISHES, 12 at most,");
        SparseDishes x = Check.twelve();
        Check.due("lift(0)", x.lift(0), 11);
        Check.due("put(60)", x.put(60), 12);
        Check.due("put(0)", x.put(0), Check.FULL);
        Check.due("undo()", x.undo(), 13);
        Check.due("put(1)", x.put(1), 12);
        Check.due("put(0)", x.put(0), Check.FULL);
    }

    static void anUndoneLiftMakesTwelveAgain() {
        Check.sentence("Terms 1", "DISHES, 12 at most,");
        SparseDishes x = Check.twelve();
        x.lift(55);
        x.undo();
        Check.due("facts(0)", x.facts(0), 12);
        Check.due("put(60)", x.put(60), Check.FULL);
    }

    static void eachStationFrom0To60IsTaken() {
        Check.sentence("Terms 1", "stand at STATIONS 0 to 60,");
        SparseDishes x = new SparseDishes();
        for (int s = 0; s <= 60; s++) {
            Check.due("put(" + s + ")", x.put(s), 1);
            Check.stations("put(" + s + ")", x, s);
            x.lift(s);
        }
    }

    static void noStationBelow0OrAbove60IsTaken() {
        Check.sentence("Terms 1", "stand at STATIONS 0 to 60,");
        SparseDishes x = new SparseDishes();
        Check.due("put(-1)", x.put(-1), Check.OUTSIDE);
        Check.due("put(61)", x.put(61), Check.OUTSIDE);
        Check.stations("none came", x);
    }

    static void noTwoStandAtOneStation() {
        Check.sentence("Terms 1", "no two at one.");
        SparseDishes x = new SparseDishes();
        for (int s : new int[] {0, 30, 60}) {
            x.put(s);
            Check.due("put(" + s + ") again", x.put(s), Check.NO);
        }
        Check.stations("one at each", x, 0, 30, 60);
    }

    static void whereOneIsGoneAnotherMayStand() {
        Check.sentence("Terms 1", "no two at one.");
        SparseDishes x = Check.dishesAt(0, 60);
        x.lift(60);
        Check.due("put(60) behind lift", x.put(60), 2);
        x.undo();
        Check.due("put(60) behind undo", x.put(60), 2);
        x.stand(0, 2, 0);
        Check.due("put(60) behind stand", x.put(60), 3);
    }

    static void theSpacingIsHowFarTwoAreApart() {
        Check.sentence("Terms 1", "SPACING of two: how far they are apart.");
        Check.due("0, 60: spacing(60)", Check.dishesAt(0, 60).spacing(60), 1);
        Check.due("60, 0: spacing(60)", Check.dishesAt(60, 0).spacing(60), 1);
        Check.due("59, 60: spacing(1)", Check.dishesAt(59, 60).spacing(1), 1);
        Check.due("0, 1: spacing(1)", Check.dishesAt(0, 1).spacing(1), 1);
        Check.due("1, 60: spacing(59)", Check.dishesAt(1, 60).spacing(59), 1);
        Check.due("1, 60: spacing(60)", Check.dishesAt(1, 60).spacing(60), 0);
    }

    static void theSpanOfNoDishIs0() {
        Check.sentence("Terms 1", "SPAN: the greatest SPACING (0: fewer than two DISHES).");
        SparseDishes x = new SparseDishes();
        Check.due("facts(1)", x.facts(1), 0);
        x.put(60);
        x.lift(60);
        Check.due("facts(1), one came and went", x.facts(1), 0);
    }

    static void theSpanOfOneDishIs0() {
        Check.sentence("Terms 1", "SPAN: the greatest SPACING (0: fewer than two DISHES).");
        for (int s = 0; s <= 60; s += 15) Check.due("at " + s + ": facts(1)", Check.dishesAt(s).facts(1), 0);
        SparseDishes x = Check.dishesAt(0, 60);
        x.lift(0);
        Check.due("one of two is gone: facts(1)", x.facts(1), 0);
    }

    static void theSpanIsTheGreatestSpacing() {
        Check.sentence("Terms 1", "SPAN: the greatest SPACING");
        Check.due("least: facts(1)", Check.dishesAt(59, 60).facts(1), 1);
        Check.due("greatest: facts(1)", Check.dishesAt(60, 0).facts(1), 60);
        SparseDishes x = Check.dishesAt(20, 10, 31);
        Check.due("three: facts(1)", x.facts(1), 21);
        x.lift(20);
        Check.due("one between is gone: facts(1)", x.facts(1), 21);
        x.put(9);
        Check.due("one ahead: facts(1)", x.facts(1), 22);
        x.lift(31);
        Check.due("the last is gone: facts(1)", x.facts(1), 1);
        Check.due("twelve: facts(1)", Check.twelve().facts(1), 55);
    }

    static void aLengthIsThereAsOftenAsSpacingsAreThat() {
        Check.sentence("Terms 1", "A length d is there as often as SPACINGS are d.");
        SparseDishes x = Check.dishesAt(0, 10, 20, 60);
        for (int d = 1; d <= 60; d++) {
            int want = d == 10 ? 2 : d == 20 || d == 40 || d == 50 || d == 60 ? 1 : 0;
            Check.due("spacing(" + d + ")", x.spacing(d), want);
        }
    }

    static void lengthsOfTwelveInARow() {
        Check.sentence("Terms 1", "A length d is there as often as SPACINGS are d.");
        SparseDishes x = new SparseDishes();
        for (int s = 49; s <= 60; s++) x.put(s);
        for (int d = 1; d <= 60; d++) Check.due("spacing(" + d + ")", x.spacing(d), Math.max(0, 12 - d));
    }

    static void theReachIs0Where1IsNotThere() {
        Check.sentence("Terms 1", REACH_WORDS + " (0: 1 is not).");
        Check.due("none: facts(2)", new SparseDishes().facts(2), 0);
        Check.due("one: facts(2)", Check.dishesAt(60).facts(2), 0);
        Check.due("two: facts(2)", Check.dishesAt(0, 2).facts(2), 0);
        Check.due("2, 3, 5 are there: facts(2)", Check.dishesAt(0, 2, 5).facts(2), 0);
        Check.due("twelve: facts(2)", Check.twelve().facts(2), 0);
    }

    static void theReachEndsAheadOfTheFirstThatLacks() {
        Check.sentence("Terms 1", REACH_WORDS);
        Check.due("1, 59, 60: facts(2)", Check.dishesAt(0, 1, 60).facts(2), 1);
        Check.due("1, 2, 3, 57, 59, 60: facts(2)", Check.dishesAt(0, 1, 3, 60).facts(2), 3);
        Check.due("1, 2, 3, 5: facts(2)", Check.dishesAt(0, 2, 3, 5).facts(2), 3);
        Check.due("1, 3, 4, 6, 7: facts(2)", Check.dishesAt(1, 2, 5, 8).facts(2), 1);
    }

    static void theReachEndsWithTheSpanWhereNoneLacks() {
        Check.sentence("Terms 1", REACH_WORDS);
        Check.due("1: facts(2)", Check.dishesAt(59, 60).facts(2), 1);
        Check.due("1 to 6: facts(2)", Check.dishesAt(54, 55, 58, 60).facts(2), 6);
        Check.due("1 to 11: facts(2)", Check.dishesAt(0, 1, 2, 3, 4, 5, 6, 7, 8, 9, 10, 11).facts(2), 11);
        SparseDishes x = Check.dishesAt(10, 11, 13, 16, 23, 30, 37, 44, 51, 55, 59, 60);
        Check.due("twelve, 1 to 50: facts(2)", x.facts(2), 50);
    }

    static void noneIsMissingWithoutASpan() {
        Check.sentence("Terms 1", "MISSING: how many lengths 1 to SPAN are not there.");
        Check.due("none: facts(3)", new SparseDishes().facts(3), 0);
        Check.due("one: facts(3)", Check.dishesAt(60).facts(3), 0);
    }

    static void theLengthsUpToTheSpanMayBeMissing() {
        Check.sentence("Terms 1", "MISSING: how many lengths 1 to SPAN are not there.");
        Check.due("1 of 1: facts(3)", Check.dishesAt(0, 1).facts(3), 0);
        Check.due("2 of 2: facts(3)", Check.dishesAt(0, 2).facts(3), 1);
        Check.due("60 of 60: facts(3)", Check.dishesAt(0, 60).facts(3), 59);
        Check.due("those above the SPAN are not counted: facts(3)", Check.dishesAt(30, 60).facts(3), 29);
        Check.due("all but 4 of 5: facts(3)", Check.dishesAt(0, 2, 3, 5).facts(3), 1);
        Check.due("those of REACH and above: facts(3)", Check.dishesAt(1, 2, 5, 8).facts(3), 2);
        Check.due("all of 6: facts(3)", Check.dishesAt(0, 1, 4, 6).facts(3), 0);
        Check.due("each fifth of 55: facts(3)", Check.twelve().facts(3), 44);
    }

    static void noRepeatsWhereAllAreUnlike() {
        Check.sentence("Terms 1", REPEATS_WORDS);
        Check.due("none: facts(4)", new SparseDishes().facts(4), 0);
        Check.due("one: facts(4)", Check.dishesAt(0).facts(4), 0);
        Check.due("two: facts(4)", Check.dishesAt(0, 60).facts(4), 0);
        Check.due("a ruler: facts(4)", Check.dishesAt(0, 1, 4, 10, 18, 23, 25).facts(4), 0);
    }

    static void repeatsAreAllButOneOfEachLength() {
        Check.sentence("Terms 1", REPEATS_WORDS);
        Check.due("one twice: facts(4)", Check.dishesAt(0, 30, 60).facts(4), 1);
        Check.due("one three times, one twice: facts(4)", Check.dishesAt(0, 20, 40, 60).facts(4), 3);
        Check.due("two twice: facts(4)", Check.dishesAt(0, 2, 4, 7, 8).facts(4), 2);
        Check.due("twelve at fives, 66 less 11: facts(4)", Check.twelve().facts(4), 55);
    }
}

/** Promise 3: lift. */
public final class Promise03LiftTest {
    public static void main(String[] args) {
        Check.run(Promise03LiftTest.class);
    }

    static void aDishGoesDownToNone() {
        Check.sentence("Promise 3", "A DISH goes: how many there are.");
        SparseDishes x = Check.twelve();
        for (int s = 55; s >= 0; s -= 5) Check.due("lift(" + s + ")", x.lift(s), s / 5);
        Check.stations("none", x);
        Check.due("told(0)", x.told(0), 16);
    }

    static void theLeastAndTheGreatestStationMayGo() {
        Check.sentence("Promise 3", "A DISH goes: how many there are.");
        SparseDishes x = Check.dishesAt(0, 5, 60);
        Check.due("lift(60)", x.lift(60), 2);
        Check.due("lift(0)", x.lift(0), 1);
        Check.stations("one is left", x, 5);
        Check.due("told(100)", x.told(100), Check.NONE);
    }

    static void whereNoneStandsNoneGoes() {
        Check.sentence("Promise 3", "UNKNOWN.");
        SparseDishes x = Check.dishesAt(0, 5, 60);
        Check.dueOfAll("lift", x::lift, Check.UNKNOWN, 1, 4, 6, 59);
        Check.dueOfAll("lift", x::lift, Check.UNKNOWN, Check.NO_STATIONS);
        Check.stations("all stand", x, 0, 5, 60);
        Check.due("told(0)", x.told(0), 3);
    }

    static void whatIsGoneDoesNotGoAgain() {
        Check.sentence("Promise 3", "UNKNOWN.");
        SparseDishes x = Check.dishesAt(0, 5);
        x.lift(5);
        Check.due("lift(5) again", x.lift(5), Check.UNKNOWN);
        x.put(6);
        x.undo();
        Check.due("lift(6), undone", x.lift(6), Check.UNKNOWN);
        x.stand(0, 2, 10);
        Check.due("lift(0), gone by stand", x.lift(0), Check.UNKNOWN);
        Check.due("lift(11)", x.lift(11), 1);
    }
}

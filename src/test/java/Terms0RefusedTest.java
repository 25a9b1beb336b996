import java.util.ArrayList;
import java.util.List;
import java.util.function.Consumer;
import java.util.function.ToIntFunction;

/** Terms, ahead of part 1: refused calls, and another house. */
public final class Terms0RefusedTest {
    private static final String ORDER = "Calls that are refused answer, the first of these that fits:";
    private static final String HOUSE = "(There is one such house at a time: another one that is built is empty, "
        + "nothing is known to it, and the elder one is no more to be asked.)";
    private static final int[] WRONG_WHATS = {-1, 3, 4, 5, 6, 7, 8, 9, -10, Check.MIN};

    /** A call, with what it is due to answer. */
    private record Call(String name, int due, ToIntFunction<SparseDishes> on) {
    }

    public static void main(String[] args) {
        Check.run(Terms0RefusedTest.class);
    }

    static void unknownIsAheadOfOutside() {
        Check.sentence("Terms", ORDER + " UNKNOWN -1 (there is no such DISH), "
            + "OUTSIDE -2 (another number is not as told),");
        SparseDishes x = Check.dishesAt(5);
        for (int phase : Check.NO_PHASES) {
            Check.due("error(6, " + phase + ")", x.error(6, phase), Check.UNKNOWN);
            Check.due("error(61, " + phase + ")", x.error(61, phase), Check.UNKNOWN);
            Check.due("error(5, " + phase + ")", x.error(5, phase), Check.OUTSIDE);
        }
    }

    static void unknownIsAheadOfNo() {
        Check.sentence("Terms", ORDER + " UNKNOWN -1 (there is no such DISH), "
            + "OUTSIDE -2 (another number is not as told), NO -5 (as told),");
        SparseDishes x = Check.dishesAt(5);
        Check.due("phase(6, 6)", x.phase(6, 6), Check.UNKNOWN);
        Check.due("phase(-1, -1)", x.phase(-1, -1), Check.UNKNOWN);
        Check.due("closure(6, 6, 6)", x.closure(6, 6, 6), Check.UNKNOWN);
        Check.due("closure(5, 5, 6)", x.closure(5, 5, 6), Check.UNKNOWN);
        Check.due("closure(5, 6, 5)", x.closure(5, 6, 5), Check.UNKNOWN);
        Check.due("closure(6, 5, 5)", x.closure(6, 5, 5), Check.UNKNOWN);
        Check.due("closure(5, 6, 6)", x.closure(5, 6, 6), Check.UNKNOWN);
        Check.due("phase(5, 5)", x.phase(5, 5), Check.NO);
        Check.due("closure(5, 5, 5)", x.closure(5, 5, 5), Check.NO);
    }

    static void aStationOutsideIsNoDish() {
        Check.sentence("Terms", "UNKNOWN -1 (there is no such DISH),");
        SparseDishes x = Check.dishesAt(0, 5, 60);
        for (int s : Check.NO_STATIONS) {
            Check.due("lift(" + s + ")", x.lift(s), Check.UNKNOWN);
            Check.due("error(" + s + ", 0)", x.error(s, 0), Check.UNKNOWN);
            Check.due("phase(" + s + ", 0)", x.phase(s, 0), Check.UNKNOWN);
            Check.due("closure(0, " + s + ", 60)", x.closure(0, s, 60), Check.UNKNOWN);
            Check.due("left(" + s + ")", x.left(s), Check.UNKNOWN);
        }
    }

    static void outsideIsAheadOfNo() {
        Check.sentence("Terms", "OUTSIDE -2 (another number is not as told), NO -5 (as told),");
        SparseDishes x = new SparseDishes();
        Check.due("stand(0, 3, 61)", x.stand(0, 3, 61), Check.OUTSIDE);
        Check.due("stand(0, 8, 60)", x.stand(0, 8, 60), Check.OUTSIDE);
        Check.due("stand(1, 21, 60)", x.stand(1, 21, 60), Check.OUTSIDE);
        Check.due("stand(2, 7, 60)", x.stand(2, 7, 60), Check.OUTSIDE);
        Check.due("stand(0, 3, 60)", x.stand(0, 3, 60), Check.NO);
    }

    static void outsideIsAheadOfState() {
        Check.sentence("Terms", "OUTSIDE -2 (another number is not as told), NO -5 (as told), STATE -3 (as told),");
        SparseDishes x = new SparseDishes();
        Check.due("restore(-1)", x.restore(-1), Check.OUTSIDE);
        Check.due("restore(2)", x.restore(2), Check.OUTSIDE);
        Check.due("restore(1)", x.restore(1), Check.STATE);
    }

    static void outsideIsAheadOfFull() {
        Check.sentence("Terms", "OUTSIDE -2 (another number is not as told), NO -5 (as told), STATE -3 (as told), "
            + "FULL -4.");
        SparseDishes x = Check.twelve();
        Check.dueOfAll("put", x::put, Check.OUTSIDE, Check.NO_STATIONS);
        Check.due("put(60)", x.put(60), Check.FULL);
    }

    static void noIsAheadOfFull() {
        Check.sentence("Terms", "NO -5 (as told), STATE -3 (as told), FULL -4.");
        SparseDishes x = Check.twelve();
        Check.dueOfAll("put", x::put, Check.NO, 0, 5, 30, 55);
        Check.dueOfAll("put", x::put, Check.FULL, 1, 4, 29, 54, 56, 60);
    }

    static void nothingIsChangedWhereNothingIs() {
        Check.sentence("Terms", "They change nothing.");
        nothingIsChanged("new", x -> { }, List.of(undoIsRefused(), restoreIsRefused(0), restoreIsRefused(1)));
    }

    static void nothingIsChangedWhereSomeStand() {
        Check.sentence("Terms", "They change nothing.");
        nothingIsChanged("some", Terms0RefusedTest::some, List.of(putIsRefused(0), putIsRefused(5), putIsRefused(60),
            restoreIsRefused(0), standIsRefused(0, 4, 55), standIsRefused(1, 6, 60)));
    }

    static void nothingIsChangedWhereAllIsFull() {
        Check.sentence("Terms", "They change nothing.");
        List<Call> more = new ArrayList<>(List.of(putIsRefused(0), putIsRefused(55)));
        for (int s : new int[] {1, 33, 60}) more.add(new Call("put(" + s + ")", Check.FULL, x -> x.put(s)));
        nothingIsChanged("full", Terms0RefusedTest::full, more);
    }

    static void nothingIsChangedWhereAllAreGone() {
        Check.sentence("Terms", "They change nothing.");
        nothingIsChanged("gone", Terms0RefusedTest::gone, List.of(restoreIsRefused(0), restoreIsRefused(1)));
    }

    static void nothingIsChangedBehindARestore() {
        Check.sentence("Terms", "They change nothing.");
        nothingIsChanged("restored", Terms0RefusedTest::restored,
            List.of(undoIsRefused(), putIsRefused(0), restoreIsRefused(1)));
    }

    static void anotherHouseIsEmpty() {
        Check.sentence("Terms", HOUSE);
        SparseDishes elder = new SparseDishes();
        full(elder);
        elder.image(0);
        elder.image(1);
        SparseDishes x = new SparseDishes();
        Check.stations("another", x);
        for (int d = 1; d <= 60; d++) Check.due("told(200 + " + d + ")", x.told(200 + d), 0);
        for (int what = 0; what <= 6; what++) Check.due("told(" + what + ")", x.told(what), 0);
        Check.due("undo()", x.undo(), Check.NO);
        Check.due("restore(0)", x.restore(0), Check.STATE);
        Check.due("restore(1)", x.restore(1), Check.STATE);
    }

    static void anotherHouseSearchesForItself() {
        Check.sentence("Terms", HOUSE);
        SparseDishes elder = new SparseDishes();
        elder.ruler(4, 0);
        elder.cover(6, 0);
        SparseDishes x = new SparseDishes();
        Check.due("told(1)", x.told(1), 0);
        Check.due("ruler(4, 0)", x.ruler(4, 0), 6);
        Check.due("cover(6, 0)", x.cover(6, 0), 4);
        Check.due("told(1)", x.told(1), 2);
        Check.due("told(2)", x.told(2), 19 + 13);
    }

    // ---- houses

    private static void some(SparseDishes x) {
        x.ruler(4, 0);
        x.cover(6, 1);
        x.put(0);
        x.put(5);
        x.image(1);
        x.put(60);
        x.put(7);
        x.error(5, 100);
        x.error(60, 359);
        x.sky(55, 12);
        x.undo();
        x.lift(7);
    }

    private static void full(SparseDishes x) {
        x.cover(3, 0);
        x.ruler(2, 0);
        for (int s = 0; s <= 55; s += 5) x.put(s);
        for (int s = 0; s <= 55; s += 5) x.error(s, s + 300);
        x.image(0);
        x.image(1);
        for (int d = 1; d <= 60; d++) x.sky(d, d + 299);
        x.undo();
        x.error(55, 1);
        x.error(0, 2);
    }

    private static void gone(SparseDishes x) {
        x.put(0);
        x.put(60);
        x.error(60, 9);
        x.lift(0);
        x.lift(60);
    }

    private static void restored(SparseDishes x) {
        x.put(0);
        x.error(0, 77);
        x.sky(60, 78);
        x.image(0);
        x.put(60);
        x.sky(60, 79);
        x.restore(0);
    }

    // ---- refused calls

    private static Call undoIsRefused() {
        return new Call("undo()", Check.NO, x -> x.undo());
    }

    private static Call restoreIsRefused(int k) {
        return new Call("restore(" + k + ")", Check.STATE, x -> x.restore(k));
    }

    private static Call putIsRefused(int s) {
        return new Call("put(" + s + ")", Check.NO, x -> x.put(s));
    }

    /** Only where its SEARCH was done before. */
    private static Call standIsRefused(int kind, int n, int by) {
        return new Call("stand(" + kind + ", " + n + ", " + by + ")", Check.NO, x -> x.stand(kind, n, by));
    }

    /** Those that are refused in each house: no DISH is ever at 59. */
    private static List<Call> refusedInAll() {
        List<Call> all = new ArrayList<>();
        for (int s : Check.NO_STATIONS) {
            all.add(new Call("put(" + s + ")", Check.OUTSIDE, x -> x.put(s)));
            all.add(new Call("stand(0, 2, " + s + ")", Check.OUTSIDE, x -> x.stand(0, 2, s)));
            addUnknown(all, s);
        }
        addUnknown(all, 59);
        for (int d : Check.NO_LENGTHS) {
            all.add(new Call("spacing(" + d + ")", Check.OUTSIDE, x -> x.spacing(d)));
            all.add(new Call("sky(" + d + ", 0)", Check.OUTSIDE, x -> x.sky(d, 0)));
            all.add(new Call("cover(" + d + ", 0)", Check.OUTSIDE, x -> x.cover(d, 0)));
            all.add(new Call("stand(1, " + d + ", 0)", Check.OUTSIDE, x -> x.stand(1, d, 0)));
        }
        for (int p : Check.NO_PHASES) all.add(new Call("sky(60, " + p + ")", Check.OUTSIDE, x -> x.sky(60, p)));
        addOutside(all);
        return all;
    }

    private static void addUnknown(List<Call> all, int s) {
        all.add(new Call("lift(" + s + ")", Check.UNKNOWN, x -> x.lift(s)));
        all.add(new Call("error(" + s + ", 1)", Check.UNKNOWN, x -> x.error(s, 1)));
        all.add(new Call("phase(" + s + ", 0)", Check.UNKNOWN, x -> x.phase(s, 0)));
        all.add(new Call("closure(0, 5, " + s + ")", Check.UNKNOWN, x -> x.closure(0, 5, s)));
        all.add(new Call("left(" + s + ")", Check.UNKNOWN, x -> x.left(s)));
    }

    private static void addOutside(List<Call> all) {
        for (int n : new int[] {1, 8, 0, -1, 34, Check.MIN, Check.MAX}) {
            all.add(new Call("ruler(" + n + ", 0)", Check.OUTSIDE, x -> x.ruler(n, 0)));
            all.add(new Call("stand(0, " + n + ", 0)", Check.OUTSIDE, x -> x.stand(0, n, 0)));
        }
        for (int what : WRONG_WHATS) {
            all.add(new Call("ruler(5, " + what + ")", Check.OUTSIDE, x -> x.ruler(5, what)));
            all.add(new Call("cover(5, " + what + ")", Check.OUTSIDE, x -> x.cover(5, what)));
        }
        for (int k : new int[] {-1, 2, 32, Check.MIN, Check.MAX}) {
            all.add(new Call("stand(" + k + ", 5, 0)", Check.OUTSIDE, x -> x.stand(k, 5, 0)));
            all.add(new Call("image(" + k + ")", Check.OUTSIDE, x -> x.image(k)));
            all.add(new Call("restore(" + k + ")", Check.OUTSIDE, x -> x.restore(k)));
        }
        for (int what : new int[] {-1, 7, 99, 161, 200, 261, Check.MIN, Check.MAX}) {
            all.add(new Call("facts(" + what + ")", Check.OUTSIDE, x -> x.facts(what)));
            all.add(new Call("told(" + what + ")", Check.OUTSIDE, x -> x.told(what)));
        }
    }

    // ---- one house with the refused call, held against one without it

    private static void nothingIsChanged(String when, Consumer<SparseDishes> house, List<Call> more) {
        SparseDishes without = new SparseDishes();
        house.accept(without);
        List<Integer> want = allThatCanBeAsked(without);
        List<Call> calls = refusedInAll();
        calls.addAll(more);
        for (Call call : calls) {
            SparseDishes x = new SparseDishes();
            house.accept(x);
            Check.due(when + ": " + call.name(), call.on().applyAsInt(x), call.due());
            Check.holds(when + ": " + call.name() + " changes nothing", allThatCanBeAsked(x).equals(want));
        }
    }

    /** It is undone down to the last one, and restored, too, as the LOG and the IMAGES can't be looked at otherwise. */
    private static List<Integer> allThatCanBeAsked(SparseDishes x) {
        List<Integer> all = new ArrayList<>();
        addErrors(all, x);
        for (int d = 1; d <= 60; d++) all.add(x.told(200 + d));
        for (int what = 0; what <= 6; what++) all.add(x.told(what));
        for (int left = x.undo(), i = 0; left >= 0 && i < 20; left = x.undo(), i++) {
            all.add(left);
            all.add(x.facts(0));
            for (int s = 0; s <= 60; s += 5) all.add(i % 4 == 0 ? x.told(100 + s) : 0);
        }
        for (int k = 0; k <= 1; k++) {
            all.add(x.restore(k));
            for (int s = 0; s <= 60; s += 5) all.add(x.told(100 + s));
            for (int d = 5; d <= 60; d += 5) all.add(x.told(200 + d));
        }
        return all;
    }

    private static void addErrors(List<Integer> all, SparseDishes x) {
        for (int s = 0; s <= 60; s++) all.add(x.told(100 + s));
    }
}

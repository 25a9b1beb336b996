/** What it is: for how many calls an object is used. */
public final class CallsTest {
    private static final String WORDS =
        "An object is used for at most 512 calls after it has been made; what later calls answer is free.";

    public static void main(String[] args) {
        Check.run(CallsTest.class);
    }

    static void allOf512CallsAreAnswered() {
        Check.sentence("What it is", WORDS);
        SparseDishes x = new SparseDishes();
        Check.due("call 1: put(0)", x.put(0), 1);
        Check.due("call 2: put(60)", x.put(60), 2);
        for (int call = 3; call <= 508; call++) {
            Check.due("call " + call + ": error", x.error(60, call % 360), call == 3 ? 0 : (call - 1) % 360);
        }
        Check.due("call 509: told(6)", x.told(6), 506);
        Check.due("call 510: told(0)", x.told(0), 16);
        Check.due("call 511: undo()", x.undo(), 15);
        Check.due("call 512: told(160)", x.told(160), 507 % 360);
    }

    static void theLastCallMayBeASearch() {
        Check.sentence("What it is", WORDS);
        SparseDishes x = new SparseDishes();
        for (int call = 1; call <= 511; call++) Check.due("call " + call + ": undo()", x.undo(), Check.NO);
        Check.due("call 512: ruler(7, 2)", x.ruler(7, 2), 40283);
    }
}

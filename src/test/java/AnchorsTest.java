/** Promises 8 and 9: anchors, anchor. */
public final class AnchorsTest {
    private static final Check check = new Check();

    public static void main(String[] args) {
        order();
        rowsShorterThanK();
        followChanges();
        anchorRefuses();
        most();
        check.end();
    }

    private static void order() {
        check.same("anchors", Check.anchorsOf(Check.rows("0101", "1010")), "4: 0,1 1,0 1,2 2,1");
        check.same("anchors", Check.anchorsOf(Check.rows("012", "120121")), "3: 0,2 1,0 1,3");
        check.same("no anchors", Check.anchorsOf(Check.rows("0000", "1111")), "0:");
        SeedChainer x = Check.rows("30", "0330");
        x.seeds(1);
        check.same("anchors of K 1", Check.anchorsOf(x), "4: 0,1 0,2 1,0 1,3");
    }

    private static void rowsShorterThanK() {
        for (int k = 1; k <= 6; k++) {
            SeedChainer x = Check.rows("0".repeat(k), "0".repeat(k - 1));
            x.seeds(k);
            check.due("anchors() with a row too short", x.anchors(), 0);
            x.put(1, 0);
            check.same("anchors with just K letters", Check.anchorsOf(x), "1: 0,0");
            x.cut(0);
            check.due("anchors() with the other too short", x.anchors(), 0);
        }
    }

    private static void followChanges() {
        SeedChainer x = Check.rows("01", "0");
        check.due("anchors()", x.anchors(), 0);
        x.put(1, 1);
        check.same("after put", Check.anchorsOf(x), "1: 0,0");
        x.put(1, 4);
        check.same("after a refused put", Check.anchorsOf(x), "1: 0,0");
        x.cut(1);
        x.put(1, 2);
        check.due("after the last letter changed", x.anchors(), 0);
        x.seeds(1);
        check.same("after seeds(1)", Check.anchorsOf(x), "1: 0,0");
    }

    private static void anchorRefuses() {
        SeedChainer x = Check.rows("01", "301");
        check.due("anchor(0, 0)", x.anchor(0, 0), 0);
        check.due("anchor(0, 1)", x.anchor(0, 1), 1);
        for (int n : new int[] {-1, 1, 2, Integer.MIN_VALUE, Integer.MAX_VALUE}) {
            check.due("anchor(" + n + ", 0)", x.anchor(n, 0), -1);
            check.due("anchor(" + n + ", 1)", x.anchor(n, 1), -1);
        }
        for (int which : new int[] {-1, 2, 3, Integer.MIN_VALUE, Integer.MAX_VALUE}) {
            check.due("anchor(0, " + which + ")", x.anchor(0, which), -1);
        }
    }

    private static void most() {
        SeedChainer x = Check.rows("2".repeat(48), "2".repeat(48));
        check.due("anchors() of full rows", x.anchors(), 47 * 47);
        check.due("anchor(2208, 0)", x.anchor(2208, 0), 46);
        check.due("anchor(2208, 1)", x.anchor(2208, 1), 46);
        check.due("anchor(2209, 0)", x.anchor(2209, 0), -1);
        check.due("anchor(48, 0)", x.anchor(48, 0), 1);
        check.due("anchor(48, 1)", x.anchor(48, 1), 1);
        x.seeds(1);
        check.due("anchors() of full rows and K 1", x.anchors(), 48 * 48);
        check.due("anchor(2303, 1)", x.anchor(2303, 1), 47);
        check.due("anchor(2304, 1)", x.anchor(2304, 1), -1);
    }
}

/** Promise 9: anchor. */
public final class AnchorTest {
    private static final Check check = new Check();

    public static void main(String[] args) {
        check.test("places i and j", AnchorTest::places);
        check.test("in ORDER: less i first", AnchorTest::lessI);
        check.test("in ORDER: of the same i less j", AnchorTest::lessJ);
        check.test("in ORDER: less i, though its j is greater", AnchorTest::lessIBeforeLessJ);
        check.test("the first and the last of the most there can be", AnchorTest::most);
        check.test("none before the first", AnchorTest::beforeFirst);
        check.test("none right behind the last", AnchorTest::behindLast);
        check.test("none far off", AnchorTest::farOff);
        check.test("none when there is no anchor", AnchorTest::noAnchor);
        check.test("none of another which", AnchorTest::anotherWhich);
        check.test("none where an anchor went with a cut", AnchorTest::goneWithCut);
        check.end();
    }

    private static void same(String first, String second, String want) {
        check.same("anchors of " + first + " and " + second, Look.anchors(Rows.of(first, second)), want);
    }

    private static void places() {
        SeedChainer x = Rows.of("0001", "222201");
        check.due("anchors()", x.anchors(), 1);
        check.due("anchor(0, 0)", x.anchor(0, 0), 2);
        check.due("anchor(0, 1)", x.anchor(0, 1), 4);
        SeedChainer y = Rows.of("01", "01");
        check.due("anchor(0, 0) at the beginning", y.anchor(0, 0), 0);
        check.due("anchor(0, 1) at the beginning", y.anchor(0, 1), 0);
    }

    private static void lessI() {
        same("01201", "01", "2: 0,0 3,0");
    }

    private static void lessJ() {
        same("01", "01201", "2: 0,0 0,3");
        same("0010", "0000", "3: 0,0 0,1 0,2");
    }

    private static void lessIBeforeLessJ() {
        same("0123", "2301", "2: 0,2 2,0");
        same("0101", "1010", "4: 0,1 1,0 1,2 2,1");
        same("012", "120121", "3: 0,2 1,0 1,3");
    }

    private static void most() {
        SeedChainer x = Rows.of("2".repeat(48), "2".repeat(48));
        x.seeds(1);
        check.due("anchor(0, 0)", x.anchor(0, 0), 0);
        check.due("anchor(0, 1)", x.anchor(0, 1), 0);
        check.due("anchor(47, 1)", x.anchor(47, 1), 47);
        check.due("anchor(48, 0)", x.anchor(48, 0), 1);
        check.due("anchor(48, 1)", x.anchor(48, 1), 0);
        check.due("anchor(2303, 0)", x.anchor(2303, 0), 47);
        check.due("anchor(2303, 1)", x.anchor(2303, 1), 47);
        check.due("anchor(2304, 0)", x.anchor(2304, 0), -1);
        check.due("anchor(2304, 1)", x.anchor(2304, 1), -1);
    }

    private static void beforeFirst() {
        check.refusedInEveryState("anchor(-1, 0)", x -> x.anchor(-1, 0));
        check.refusedInEveryState("anchor(-1, 1)", x -> x.anchor(-1, 1));
    }

    private static void behindLast() {
        for (State state : State.values()) {
            int n = state.make().anchors();
            check.refused(state, "anchor(" + n + ", 0)", x -> x.anchor(n, 0));
            check.refused(state, "anchor(" + n + ", 1)", x -> x.anchor(n, 1));
        }
    }

    private static void farOff() {
        for (int n : new int[] {Integer.MIN_VALUE, -2, 2304, 2305, Integer.MAX_VALUE}) {
            check.refusedInEveryState("anchor(" + n + ", 0)", x -> x.anchor(n, 0));
            check.refusedInEveryState("anchor(" + n + ", 1)", x -> x.anchor(n, 1));
        }
    }

    private static void noAnchor() {
        SeedChainer x = Rows.of("000", "111");
        check.due("anchor(0, 0)", x.anchor(0, 0), -1);
        check.due("anchor(0, 1)", x.anchor(0, 1), -1);
        check.due("anchor(1, 0)", x.anchor(1, 0), -1);
    }

    private static void anotherWhich() {
        for (int which : Wrong.WHICH) {
            check.refusedInEveryState("anchor(0, " + which + ")", x -> x.anchor(0, which));
        }
    }

    private static void goneWithCut() {
        SeedChainer x = Rows.of("012", "012");
        check.due("anchor(1, 0)", x.anchor(1, 0), 1);
        x.cut(1);
        check.due("anchor(1, 0) then", x.anchor(1, 0), -1);
        check.due("anchor(0, 0) then", x.anchor(0, 0), 0);
    }
}

/** Promise 5: seeds. */
public final class SeedsTest {
    private static final Check check = new Check();

    public static void main(String[] args) {
        check.test("K becomes each number of 1 .. 6", SeedsTest::eachNumber);
        check.test("1 is the least", SeedsTest::least);
        check.test("6 is the greatest", SeedsTest::greatest);
        check.test("the same number again is taken", SeedsTest::sameAgain);
        check.test("K greater than the rows are long is taken", SeedsTest::longerThanRows);
        check.test("the chain that was asked for before is found anew", SeedsTest::chainFollows);
        check.test("rows, penalty, scores and what was reached stay", SeedsTest::othersStay);
        check.test("0 is too small", () -> check.deniedInEveryState("seeds(0)", x -> x.seeds(0)));
        check.test("7 is too large", () -> check.deniedInEveryState("seeds(7)", x -> x.seeds(7)));
        check.test("far off", SeedsTest::farOff);
        check.test("a refusal leaves each K as it was", SeedsTest::refusalLeavesEachK);
        check.end();
    }

    private static void eachNumber() {
        SeedChainer x = Rows.of("0000000", "0000000");
        for (int k = 6; k >= 1; k--) {
            check.due("seeds(" + k + ")", x.seeds(k), true);
            check.due("anchors() of K " + k, x.anchors(), (8 - k) * (8 - k));
            check.due("links() of K " + k, x.links(), 7 / k);
            check.due("chain() of K " + k, x.chain(), 7 / k * 10 * k);
        }
    }

    private static void least() {
        SeedChainer x = Rows.of("3", "03");
        check.due("seeds(1)", x.seeds(1), true);
        check.same("anchors", Look.anchors(x), "1: 0,1");
        check.same("the chain", Look.chain(x), "10: 0,1");
    }

    private static void greatest() {
        SeedChainer x = Rows.of("012301", "30123012");
        check.due("seeds(6)", x.seeds(6), true);
        check.same("anchors", Look.anchors(x), "1: 0,1");
        check.same("the chain", Look.chain(x), "60: 0,1");
    }

    private static void sameAgain() {
        SeedChainer x = Rows.of("012", "012");
        check.due("seeds(2)", x.seeds(2), true);
        check.due("seeds(2) again", x.seeds(2), true);
        check.due("anchors()", x.anchors(), 2);
    }

    private static void longerThanRows() {
        SeedChainer x = Rows.of("01", "01");
        check.due("seeds(3)", x.seeds(3), true);
        check.due("anchors()", x.anchors(), 0);
        Rows.fill(x, "2", "2");
        check.due("anchors() when the rows have grown", x.anchors(), 1);
    }

    private static void chainFollows() {
        SeedChainer x = Rows.of("0123", "0123");
        check.same("of K 2", Look.chain(x), "40: 0,0 2,2");
        x.seeds(3);
        check.same("of K 3", Look.chain(x), "30: 0,0");
        x.seeds(1);
        check.same("of K 1", Look.chain(x), "40: 0,0 1,1 2,2 3,3");
    }

    private static void othersStay() {
        for (Probe probe : new Probe[] {Probe.LETTERS, Probe.ROOM, Probe.REACHED, Probe.SCORES}) {
            SeedChainer x = State.OTHER_SETTINGS.make();
            x.seeds(5);
            check.same(probe + " after seeds(5)", probe.read(x), probe.read(State.OTHER_SETTINGS.make()));
        }
        SeedChainer y = State.OTHER_SETTINGS.make();
        y.seeds(6);
        y.seeds(1);
        check.same("the penalty", Probe.PENALTY.read(y), Probe.PENALTY.read(State.OTHER_SETTINGS.make()));
    }

    private static void farOff() {
        for (int k : new int[] {-1, -2, 8, 48, Integer.MIN_VALUE, Integer.MAX_VALUE}) {
            check.deniedInEveryState("seeds(" + k + ")", x -> x.seeds(k));
        }
    }

    private static void refusalLeavesEachK() {
        for (int k = 1; k <= 6; k++) {
            SeedChainer x = Rows.of("0000000", "0000000");
            x.seeds(k);
            check.due("seeds(0)", x.seeds(0), false);
            check.due("seeds(7)", x.seeds(7), false);
            check.due("anchors() of K " + k, x.anchors(), (8 - k) * (8 - k));
        }
    }
}

/** Promise 6: penalty. */
public final class PenaltyTest {
    private static final Check check = new Check();

    public static void main(String[] args) {
        check.test("the penalty becomes each number of 0 .. 9", PenaltyTest::eachNumber);
        check.test("0 is the least: letters between cost nothing", PenaltyTest::least);
        check.test("9 is the greatest", PenaltyTest::greatest);
        check.test("the same number again is taken", PenaltyTest::sameAgain);
        check.test("the chain that was asked for before is found anew", PenaltyTest::chainFollows);
        check.test("rows, K, scores and what was reached stay", PenaltyTest::othersStay);
        check.test("-1 is too small", () -> check.deniedInEveryState("penalty(-1)", x -> x.penalty(-1)));
        check.test("10 is too large", () -> check.deniedInEveryState("penalty(10)", x -> x.penalty(10)));
        check.test("far off", PenaltyTest::farOff);
        check.test("a refusal leaves each penalty as it was", PenaltyTest::refusalLeavesEachPenalty);
        check.end();
    }

    private static void eachNumber() {
        SeedChainer x = Rows.of("0123012", "01222012");
        x.seeds(3);
        // Between 0,0 and 4,5 stand one letter of row 0 and two of row 1.
        for (int g = 0; g <= 9; g++) {
            check.due("penalty(" + g + ")", x.penalty(g), true);
            check.same("the chain of penalty " + g, Look.chain(x), (60 - 3 * g) + ": 0,0 4,5");
        }
    }

    private static void least() {
        SeedChainer x = Rows.of("0" + "1".repeat(46) + "0", "0" + "2".repeat(46) + "0");
        x.seeds(1);
        check.due("penalty(0)", x.penalty(0), true);
        check.same("the chain over 92 letters", Look.chain(x), "20: 0,0 47,47");
    }

    private static void greatest() {
        SeedChainer x = Rows.of("01", "021");
        x.seeds(1);
        check.due("penalty(9)", x.penalty(9), true);
        check.same("one letter between", Look.chain(x), "11: 0,0 1,2");
    }

    private static void sameAgain() {
        SeedChainer x = Rows.of("01", "021");
        x.seeds(1);
        check.due("penalty(4)", x.penalty(4), true);
        check.due("penalty(4) again", x.penalty(4), true);
        check.due("chain()", x.chain(), 16);
    }

    private static void chainFollows() {
        SeedChainer x = Rows.of("01233", "01023");
        check.same("of penalty 1", Look.chain(x), "39: 0,0 2,3");
        x.penalty(9);
        check.same("of penalty 9", Look.chain(x), "31: 0,0 2,3");
        x.penalty(0);
        check.same("of penalty 0", Look.chain(x), "40: 0,0 2,3");
    }

    private static void othersStay() {
        for (Probe probe : new Probe[] {Probe.LETTERS, Probe.ROOM, Probe.ANCHORS, Probe.REACHED, Probe.K, Probe.SCORES}) {
            SeedChainer x = State.OTHER_SETTINGS.make();
            x.penalty(7);
            check.same(probe + " after penalty(7)", probe.read(x), probe.read(State.OTHER_SETTINGS.make()));
        }
    }

    private static void farOff() {
        for (int g : new int[] {-2, -9, 11, 99, Integer.MIN_VALUE, Integer.MAX_VALUE}) {
            check.deniedInEveryState("penalty(" + g + ")", x -> x.penalty(g));
        }
    }

    private static void refusalLeavesEachPenalty() {
        for (int g = 0; g <= 9; g++) {
            SeedChainer x = Rows.of("01", "021", 1, g);
            check.due("penalty(-1)", x.penalty(-1), false);
            check.due("penalty(10)", x.penalty(10), false);
            check.due("chain() of penalty " + g, x.chain(), 20 - g);
        }
    }
}

/** Promise 12: link, and which chain THE BEST is when several have the greatest score. */
public final class LinkTest {
    private static final Check check = new Check();

    public static void main(String[] args) {
        check.test("places i and j of the n-th anchor", LinkTest::places);
        check.test("none before the first", LinkTest::beforeFirst);
        check.test("none right behind the last", LinkTest::behindLast);
        check.test("none far off", LinkTest::farOff);
        check.test("none of the chain of none", LinkTest::chainOfNone);
        check.test("none of another which", LinkTest::anotherWhich);
        check.test("none where an earlier chain was longer", LinkTest::earlierChainWasLonger);
        check.test("the most there can be", LinkTest::most);
        check.test("the greater score comes before the order", LinkTest::greaterScore);
        check.test("same score: the first anchor with less i", () -> best("0101", "01", 2, 1, "20: 0,0"));
        check.test("same score: the first anchor with less j", () -> best("01", "0101", 2, 1, "20: 0,0"));
        check.test("same score: less i, though j is greater", () -> best("0123", "2301", 2, 1, "20: 0,2"));
        check.test("same score: a middle anchor with less i", () -> best("0110", "010", 1, 0, "30: 0,0 1,1 3,2"));
        check.test("same score: a middle anchor with less j", () -> best("010", "0110", 1, 1, "29: 0,0 1,1 2,3"));
        check.test("same score: a middle anchor with less i, j greater", () -> best("012", "021", 1, 1, "19: 0,0 1,2"));
        check.test("same score: the last anchor with less i", () -> best("011", "01", 1, 0, "20: 0,0 1,1"));
        check.test("same score: the last anchor with less j", () -> best("01", "011", 1, 0, "20: 0,0 1,1"));
        check.test("the beginning comes first: one of two", LinkTest::beginningOfTwo);
        check.test("the beginning comes first: one of three", () -> best("0221220", "033313330", 1, 2, "10: 0,0"));
        check.test("the beginning comes first: two of four", LinkTest::beginningOfFour);
        check.test("no beginning: an early anchor that adds nothing is in", LinkTest::earlyAnchorThatAddsNothing);
        check.test("puts, cuts, K and penalty are followed at once", LinkTest::followsChanges);
        check.end();
    }

    private static void best(String first, String second, int k, int penalty, String want) {
        String of = "the chain of " + first + " and " + second + " with K " + k + " and penalty " + penalty;
        check.same(of, Look.chain(Rows.of(first, second, k, penalty)), want);
    }

    private static void places() {
        SeedChainer x = Rows.of("30123", "2201023");
        check.due("links()", x.links(), 2);
        check.due("link(0, 0)", x.link(0, 0), 1);
        check.due("link(0, 1)", x.link(0, 1), 2);
        check.due("link(1, 0)", x.link(1, 0), 3);
        check.due("link(1, 1)", x.link(1, 1), 5);
        SeedChainer y = Rows.of("01", "01");
        check.due("link(0, 0) at the beginning, asked first", y.link(0, 0), 0);
        check.due("link(0, 1) at the beginning", y.link(0, 1), 0);
    }

    private static void beforeFirst() {
        check.refusedInEveryState("link(-1, 0)", x -> x.link(-1, 0));
        check.refusedInEveryState("link(-1, 1)", x -> x.link(-1, 1));
    }

    private static void behindLast() {
        for (State state : State.values()) {
            int n = state.make().links();
            check.refused(state, "link(" + n + ", 0)", x -> x.link(n, 0));
            check.refused(state, "link(" + n + ", 1)", x -> x.link(n, 1));
        }
    }

    private static void farOff() {
        for (int n : new int[] {Integer.MIN_VALUE, -2, 48, 49, 2304, Integer.MAX_VALUE}) {
            check.refusedInEveryState("link(" + n + ", 0)", x -> x.link(n, 0));
            check.refusedInEveryState("link(" + n + ", 1)", x -> x.link(n, 1));
        }
    }

    private static void chainOfNone() {
        SeedChainer x = Rows.of("000", "111");
        check.due("link(0, 0)", x.link(0, 0), -1);
        check.due("link(0, 1)", x.link(0, 1), -1);
        SeedChainer y = Rows.of("000", "");
        check.due("link(0, 0) beside an empty row", y.link(0, 0), -1);
    }

    private static void anotherWhich() {
        for (int which : Wrong.WHICH) {
            check.refusedInEveryState("link(0, " + which + ")", x -> x.link(0, which));
        }
    }

    private static void earlierChainWasLonger() {
        SeedChainer x = Rows.of("0123", "0123");
        check.due("link(1, 0)", x.link(1, 0), 2);
        x.cut(0);
        check.due("link(1, 0) of the shorter chain", x.link(1, 0), -1);
        check.due("link(0, 0) of the shorter chain", x.link(0, 0), 0);
        Rows.empty(x);
        check.due("link(0, 0) of the chain of none", x.link(0, 0), -1);
    }

    private static void most() {
        for (int k = 1; k <= 6; k++) {
            SeedChainer x = Rows.of("1".repeat(48), "1".repeat(48), k, 9);
            int last = 48 / k - 1;
            check.due("the last link in row 0", x.link(last, 0), last * k);
            check.due("the last link in row 1", x.link(last, 1), last * k);
            check.due("none behind it in row 0", x.link(last + 1, 0), -1);
            check.due("none behind it in row 1", x.link(last + 1, 1), -1);
        }
    }

    private static void greaterScore() {
        // With 0,0 one letter stands between, with 1,0 none.
        best("001", "01", 1, 1, "20: 1,0 2,1");
        best("01", "001", 1, 1, "20: 0,1 1,2");
        best("001", "01", 1, 0, "20: 0,0 2,1");
    }

    private static void beginningOfTwo() {
        best("0220", "03330", 1, 2, "10: 0,0");
        best("0220", "03330", 1, 1, "15: 0,0 3,4");
        best("0220", "03330", 1, 3, "10: 0,0");
    }

    private static void beginningOfFour() {
        best("012201", "0133301", 1, 3, "25: 0,0 1,1 4,5 5,6");
        best("012201", "0133301", 1, 4, "20: 0,0 1,1");
        best("012201", "0133301", 1, 5, "20: 0,0 1,1");
    }

    // The chains differ first at their first anchor, so the one with 0,0 comes first, though it is longer.
    private static void earlyAnchorThatAddsNothing() {
        best("02201", "033301", 1, 2, "20: 0,0 3,4 4,5");
        best("0122010", "01333010", 1, 4, "30: 0,0 1,1 4,5 5,6 6,7");
        best("0122010", "01333010", 1, 5, "30: 4,5 5,6 6,7");
    }

    private static void followsChanges() {
        SeedChainer x = Rows.of("01233", "01023");
        check.due("link(1, 1)", x.link(1, 1), 3);
        x.penalty(9);
        check.due("after penalty(9)", x.link(1, 1), 3);
        x.cut(1);
        check.due("after cut", x.link(1, 1), -1);
        x.put(1, 3);
        check.due("after put", x.link(1, 1), 3);
        x.seeds(1);
        check.same("after seeds(1)", Look.chain(x), "31: 0,0 1,1 2,3 3,4");
    }
}

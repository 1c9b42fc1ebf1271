/** Promise 10: chain, the score of the best chain. */
public final class ChainTest {
    private static final Check check = new Check();

    public static void main(String[] args) {
        check.test("the chain of none scores 0: empty rows", ChainTest::emptyRows);
        check.test("the chain of none scores 0: no anchor", () -> score("000", "111", 2, 1, 0));
        check.test("one anchor scores 10 K", ChainTest::oneAnchor);
        check.test("a next anchor may begin K letters on", ChainTest::touching);
        check.test("a next anchor may not begin K - 1 letters on in row 0", ChainTest::overlapInRow0);
        check.test("a next anchor may not begin K - 1 letters on in row 1", ChainTest::overlapInRow1);
        check.test("a next anchor goes forward in both rows", () -> score("0123", "2301", 2, 0, 20));
        check.test("each letter of row 0 between costs the penalty", () -> score("012223", "0123", 2, 3, 34));
        check.test("each letter of row 1 between costs the penalty", () -> score("0123", "012223", 2, 3, 34));
        check.test("letters of both rows between are added", () -> score("0123012", "01222012", 3, 2, 54));
        check.test("letters before the first anchor cost nothing", () -> score("3333301", "2222201", 2, 9, 20));
        check.test("letters behind the last anchor cost nothing", () -> score("0133333", "0122222", 2, 9, 20));
        check.test("an anchor that costs more than it brings stays out", () -> score("0220", "03330", 1, 3, 10));
        check.test("an anchor that brings as much as it costs adds nothing", () -> score("0220", "03330", 1, 2, 10));
        check.test("an anchor that brings more than it costs adds the rest", () -> score("0220", "03330", 1, 1, 15));
        check.test("dear letters are crossed when enough stands on both sides", () -> score("012201", "0133301", 1, 3, 25));
        check.test("the greatest score there can be", ChainTest::greatest);
        check.test("the widest gap, for nothing and for the greatest penalty", ChainTest::widestGap);
        check.test("puts, cuts, K and penalty are followed at once", ChainTest::followsChanges);
        check.end();
    }

    private static void score(String first, String second, int k, int penalty, int want) {
        SeedChainer x = Rows.of(first, second, k, penalty);
        String call = "chain() of " + first + " and " + second + " with K " + k + " and penalty " + penalty;
        check.due(call, x.chain(), want);
        check.due(call + " again", x.chain(), want);
    }

    private static void emptyRows() {
        score("", "", 1, 0, 0);
        score("0123", "", 1, 0, 0);
        score("", "0123", 1, 0, 0);
    }

    private static void oneAnchor() {
        for (int k = 1; k <= 6; k++) {
            score("0123012".substring(0, k), "0123012".substring(0, k), k, 9, 10 * k);
        }
    }

    private static void touching() {
        score("0123", "0123", 2, 9, 40);
        score("012301", "012301", 3, 9, 60);
        score("0123", "01023", 2, 1, 39);
    }

    // The second anchor stands free in row 1 and one letter too early in row 0; below the same the other way.
    private static void overlapInRow0() {
        score("012", "0112", 2, 0, 20);
        score("01230", "012230", 3, 0, 30);
    }

    private static void overlapInRow1() {
        score("0112", "012", 2, 0, 20);
        score("012230", "01230", 3, 0, 30);
    }

    private static void greatest() {
        for (int k = 1; k <= 6; k++) {
            score("1".repeat(48), "1".repeat(48), k, 9, 48 / k * 10 * k);
        }
    }

    private static void widestGap() {
        String first = "0" + "1".repeat(46) + "0";
        String second = "0" + "2".repeat(46) + "0";
        score(first, second, 1, 0, 20);
        score(first, second, 1, 1, 10);
        score(first, second, 1, 9, 10);
    }

    private static void followsChanges() {
        SeedChainer x = Rows.of("0123", "012");
        check.due("chain()", x.chain(), 20);
        x.put(1, 3);
        check.due("after put", x.chain(), 40);
        x.put(0, 1);
        x.put(1, 1);
        x.seeds(5);
        check.due("after seeds(5)", x.chain(), 50);
        x.cut(1);
        check.due("after cut", x.chain(), 0);
        SeedChainer y = Rows.of("01233", "01023");
        check.due("chain() of penalty 1", y.chain(), 39);
        y.penalty(9);
        check.due("after penalty(9)", y.chain(), 31);
    }
}

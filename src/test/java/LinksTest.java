/** Promise 11: links, how many anchors the best chain has. */
public final class LinksTest {
    private static final Check check = new Check();

    public static void main(String[] args) {
        check.test("the chain of none: empty rows", LinksTest::emptyRows);
        check.test("the chain of none: no anchor", () -> links("000", "111", 2, 1, 0));
        check.test("one anchor", () -> links("301", "201", 2, 1, 1));
        check.test("many anchors of which only one can be taken", () -> links("01", "0101010101", 2, 0, 1));
        check.test("two that touch", () -> links("0123", "0123", 2, 1, 2));
        check.test("two that overlap", () -> links("012", "012", 2, 1, 1));
        check.test("of two chains with the same score the beginning", () -> links("0220", "03330", 1, 2, 1));
        check.test("one less to pay and the further anchor is in", () -> links("0220", "03330", 1, 1, 2));
        check.test("a chain of two that is the beginning of one of four", () -> links("012201", "0133301", 1, 4, 2));
        check.test("the most there can be", LinksTest::most);
        check.test("puts, cuts, K and penalty are followed at once", LinksTest::followsChanges);
        check.end();
    }

    private static void links(String first, String second, int k, int penalty, int want) {
        SeedChainer x = Rows.of(first, second, k, penalty);
        String call = "links() of " + first + " and " + second + " with K " + k + " and penalty " + penalty;
        check.due(call, x.links(), want);
        check.due(call + " again", x.links(), want);
    }

    private static void emptyRows() {
        links("", "", 1, 0, 0);
        links("0123", "", 1, 0, 0);
        links("", "0123", 1, 0, 0);
    }

    private static void most() {
        for (int k = 1; k <= 6; k++) {
            links("1".repeat(48), "1".repeat(48), k, 9, 48 / k);
        }
    }

    private static void followsChanges() {
        SeedChainer x = Rows.of("0123", "012");
        check.due("links()", x.links(), 1);
        x.put(1, 3);
        check.due("after put", x.links(), 2);
        x.seeds(1);
        check.due("after seeds(1)", x.links(), 4);
        x.cut(0);
        check.due("after cut", x.links(), 3);
        SeedChainer y = Rows.of("0220", "03330", 1, 1);
        check.due("links() of penalty 1", y.links(), 2);
        y.penalty(2);
        check.due("after penalty(2)", y.links(), 1);
    }
}

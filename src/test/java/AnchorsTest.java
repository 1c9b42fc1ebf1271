/** Promise 8: anchors. */
public final class AnchorsTest {
    private static final Check check = new Check();

    public static void main(String[] args) {
        check.test("each pair of places with the same K letters counts", AnchorsTest::eachPair);
        check.test("anchors that overlap each count", AnchorsTest::overlapping);
        check.test("none when both rows are empty", () -> count("", "", 1, 0));
        check.test("none when row 0 is empty", () -> count("", "0000", 1, 0));
        check.test("none when row 1 is empty", () -> count("0000", "", 1, 0));
        check.test("none when no letters are the same", () -> count("0101", "2323", 1, 0));
        check.test("none when only K - 1 letters are the same", AnchorsTest::oneLetterLess);
        check.test("none when a row is shorter than K", AnchorsTest::shorterThanK);
        check.test("one when both rows have just K letters", AnchorsTest::justK);
        check.test("the last place at which K letters fit", AnchorsTest::lastPlace);
        check.test("letters that were cut don't count", AnchorsTest::cutLetters);
        check.test("the most there can be", AnchorsTest::most);
        check.test("puts, cuts and K are followed at once", AnchorsTest::followsChanges);
        check.end();
    }

    private static void count(String first, String second, int k, int want) {
        SeedChainer x = Rows.of(first, second);
        x.seeds(k);
        check.due("anchors() of " + first + " and " + second + " with K " + k, x.anchors(), want);
    }

    private static void eachPair() {
        count("0101", "1010", 2, 4);
        count("012", "120121", 2, 3);
        count("30", "0330", 1, 4);
        count("0123012", "301231", 3, 4);
    }

    private static void overlapping() {
        count("0000", "0000", 2, 9);
        count("0000", "0000", 3, 4);
        count("0000", "000", 3, 2);
    }

    private static void oneLetterLess() {
        String[] other = {"1", "01", "001", "0001", "00001", "000001"};
        for (int k = 1; k <= 6; k++) {
            count("0".repeat(k), other[k - 1], k, 0);
            count(other[k - 1], "0".repeat(k), k, 0);
            count("1" + "0".repeat(k - 1), "0".repeat(k), k, 0);
        }
    }

    private static void shorterThanK() {
        for (int k = 1; k <= 6; k++) {
            count("0".repeat(k - 1), "0".repeat(k), k, 0);
            count("0".repeat(k), "0".repeat(k - 1), k, 0);
            count("0".repeat(k - 1), "0".repeat(k - 1), k, 0);
        }
    }

    private static void justK() {
        for (int k = 1; k <= 6; k++) {
            count("2".repeat(k), "2".repeat(k), k, 1);
        }
    }

    private static void lastPlace() {
        for (int k = 1; k <= 6; k++) {
            count("1".repeat(48 - k) + "0".repeat(k), "2".repeat(48 - k) + "0".repeat(k), k, 1);
            count("1".repeat(48 - k) + "0".repeat(k), "0".repeat(k), k, 1);
            count("0".repeat(k), "2".repeat(48 - k) + "0".repeat(k), k, 1);
        }
    }

    private static void cutLetters() {
        SeedChainer x = Rows.of("012", "012");
        x.cut(0);
        check.due("anchors() after cut(0)", x.anchors(), 1);
        x.cut(1);
        x.cut(1);
        check.due("anchors() after two cuts of row 1", x.anchors(), 0);
        check.due("anchors() of emptied rows", State.EMPTIED.make().anchors(), 0);
    }

    private static void most() {
        for (int k = 1; k <= 6; k++) {
            count("2".repeat(48), "2".repeat(48), k, (49 - k) * (49 - k));
        }
    }

    private static void followsChanges() {
        SeedChainer x = Rows.of("01", "0");
        check.due("anchors()", x.anchors(), 0);
        x.put(1, 1);
        check.due("after put", x.anchors(), 1);
        x.cut(1);
        x.put(1, 2);
        check.due("after the last letter changed", x.anchors(), 0);
        x.seeds(1);
        check.due("after seeds(1)", x.anchors(), 1);
    }
}

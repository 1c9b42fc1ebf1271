/** Promise 3: cut. */
public final class CutTest {
    private static final Check check = new Check();

    public static void main(String[] args) {
        check.test("the last letter of a row goes", CutTest::lastGoes);
        check.test("answers the letter, 0 too", CutTest::answersIt);
        check.test("the other row stays as it is", CutTest::otherRowStays);
        check.test("the only letter of a row", CutTest::onlyLetter);
        check.test("a full row, down to the last letter", CutTest::fullRow);
        check.test("what comes behind a cut takes the place", CutTest::putBehind);
        check.test("no such row", CutTest::noSuchRow);
        check.test("a row that is empty at first", CutTest::emptyAtFirst);
        check.test("a row that has become empty", CutTest::emptied);
        check.test("an empty row beside one that is not", CutTest::emptyBesideOther);
        check.end();
    }

    private static void lastGoes() {
        SeedChainer x = Rows.of("0132", "31");
        check.due("cut(0)", x.cut(0), 2);
        check.same("row 0", Look.letters(x, 0), "[-1 0 1 3 -1]");
        check.due("cut(0) again", x.cut(0), 3);
        check.same("row 0 then", Look.letters(x, 0), "[-1 0 1 -1]");
        check.due("cut(1)", x.cut(1), 1);
        check.same("row 1", Look.letters(x, 1), "[-1 3 -1]");
    }

    private static void answersIt() {
        for (int row = 0; row < 2; row++) {
            SeedChainer x = Rows.of("3210", "3210");
            for (int letter = 0; letter < 4; letter++) {
                check.due("cut(row)", x.cut(row), letter);
            }
        }
    }

    private static void otherRowStays() {
        for (int row = 0; row < 2; row++) {
            SeedChainer x = Rows.of("012", "321");
            String before = Look.letters(x, 1 - row);
            x.cut(row);
            check.same("the other row", Look.letters(x, 1 - row), before);
        }
    }

    private static void onlyLetter() {
        for (int row = 0; row < 2; row++) {
            SeedChainer x = Rows.of("2", "2");
            check.due("cut(row)", x.cut(row), 2);
            check.due("letter(row, 0)", x.letter(row, 0), -1);
            check.due("put(row, 1)", x.put(row, 1), 1);
        }
    }

    private static void fullRow() {
        for (int row = 0; row < 2; row++) {
            SeedChainer x = Rows.of("0123".repeat(12), "0123".repeat(12));
            for (int n = 47; n >= 0; n--) {
                check.due("cut of letter " + n, x.cut(row), n % 4);
            }
            check.due("cut of none", x.cut(row), -1);
        }
    }

    private static void putBehind() {
        SeedChainer x = Rows.of("013", "22");
        x.cut(0);
        check.due("put(0, 2)", x.put(0, 2), 3);
        check.same("row 0", Look.letters(x, 0), "[-1 0 1 2 -1]");
    }

    private static void noSuchRow() {
        for (int row : Wrong.ROWS) {
            check.refusedInEveryState("cut(" + row + ")", x -> x.cut(row));
        }
    }

    private static void emptyAtFirst() {
        check.refused(State.NEW, "cut(0)", x -> x.cut(0));
        check.refused(State.NEW, "cut(1)", x -> x.cut(1));
    }

    private static void emptied() {
        check.refused(State.EMPTIED, "cut(0)", x -> x.cut(0));
        check.refused(State.EMPTIED, "cut(1)", x -> x.cut(1));
    }

    private static void emptyBesideOther() {
        SeedChainer x = Rows.of("01", "");
        check.due("cut(1)", x.cut(1), -1);
        check.same("row 0", Look.letters(x, 0), "[-1 0 1 -1]");
        SeedChainer y = Rows.of("", "23");
        check.due("cut(0)", y.cut(0), -1);
        check.same("row 1", Look.letters(y, 1), "[-1 2 3 -1]");
    }
}

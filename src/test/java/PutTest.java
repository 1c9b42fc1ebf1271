/** Promise 2: put. */
public final class PutTest {
    private static final Check check = new Check();

    public static void main(String[] args) {
        check.test("a letter comes to the end of a row", PutTest::toTheEnd);
        check.test("answers how many the row has then", PutTest::howMany);
        check.test("letters 0 and 3 are the least and the greatest", PutTest::leastAndGreatestLetter);
        check.test("the other row stays as it is", PutTest::otherRowStays);
        check.test("no such row", PutTest::noSuchRow);
        check.test("no such letter", PutTest::noSuchLetter);
        check.test("no such row and no such letter", PutTest::neither);
        check.test("the 48th letter is taken", PutTest::theLastThatFits);
        check.test("a row that has 48 letters takes no more", PutTest::fullRow);
        check.test("a full row and no such letter", PutTest::fullRowAndNoSuchLetter);
        check.test("beside a full row the other one takes letters", PutTest::besideFullRow);
        check.test("a full row takes a letter again behind a cut", PutTest::fullRowAfterCut);
        check.end();
    }

    private static void toTheEnd() {
        SeedChainer x = Rows.of("0231", "312");
        check.same("row 0", Look.letters(x, 0), "[-1 0 2 3 1 -1]");
        check.same("row 1", Look.letters(x, 1), "[-1 3 1 2 -1]");
    }

    private static void howMany() {
        SeedChainer x = new SeedChainer();
        for (int n = 1; n <= 48; n++) {
            check.due("put number " + n + " in row 0", x.put(0, n % 4), n);
            check.due("put number " + n + " in row 1", x.put(1, n % 3), n);
        }
    }

    private static void leastAndGreatestLetter() {
        for (int row = 0; row < 2; row++) {
            SeedChainer x = new SeedChainer();
            check.due("put(row, 0)", x.put(row, 0), 1);
            check.due("put(row, 3)", x.put(row, 3), 2);
            check.same("the row", Look.letters(x, row), "[-1 0 3 -1]");
        }
    }

    private static void otherRowStays() {
        for (int row = 0; row < 2; row++) {
            SeedChainer x = Rows.of("012", "321");
            String before = Look.letters(x, 1 - row);
            check.due("put(row, 2)", x.put(row, 2), 4);
            check.same("the other row", Look.letters(x, 1 - row), before);
        }
    }

    private static void noSuchRow() {
        for (int row : Wrong.ROWS) {
            for (int letter = 0; letter < 4; letter += 3) {
                int taken = letter;
                check.refusedInEveryState("put(" + row + ", " + letter + ")", x -> x.put(row, taken));
            }
        }
    }

    private static void noSuchLetter() {
        for (int letter : Wrong.LETTERS) {
            check.refusedInEveryState("put(0, " + letter + ")", x -> x.put(0, letter));
            check.refusedInEveryState("put(1, " + letter + ")", x -> x.put(1, letter));
        }
    }

    private static void neither() {
        check.refusedInEveryState("put(2, 4)", x -> x.put(2, 4));
        check.refusedInEveryState("put(-1, -1)", x -> x.put(-1, -1));
    }

    private static void theLastThatFits() {
        for (int row = 0; row < 2; row++) {
            SeedChainer x = new SeedChainer();
            Rows.append(x, row, "0123".repeat(11) + "012");
            check.due("the 48th put", x.put(row, 3), 48);
            check.due("letter(row, 47)", x.letter(row, 47), 3);
        }
    }

    private static void fullRow() {
        for (int letter = 0; letter < 4; letter++) {
            int more = letter;
            check.refused(State.FIRST_ROW_FULL, "put(0, " + letter + ")", x -> x.put(0, more));
            check.refused(State.SECOND_ROW_FULL, "put(1, " + letter + ")", x -> x.put(1, more));
            check.refused(State.FULL, "put(0, " + letter + ")", x -> x.put(0, more));
            check.refused(State.FULL, "put(1, " + letter + ")", x -> x.put(1, more));
        }
    }

    private static void fullRowAndNoSuchLetter() {
        check.refused(State.FULL, "put(0, 4)", x -> x.put(0, 4));
        check.refused(State.FULL, "put(1, -1)", x -> x.put(1, -1));
    }

    private static void besideFullRow() {
        check.due("put(1, 2)", State.FIRST_ROW_FULL.make().put(1, 2), 4);
        check.due("put(0, 2)", State.SECOND_ROW_FULL.make().put(0, 2), 4);
    }

    private static void fullRowAfterCut() {
        for (int row = 0; row < 2; row++) {
            SeedChainer x = State.FULL.make();
            x.cut(row);
            check.due("put behind the cut", x.put(row, 0), 48);
            check.due("letter(row, 47)", x.letter(row, 47), 0);
            check.due("put when full again", x.put(row, 1), -1);
            check.due("letter(row, 47) then", x.letter(row, 47), 0);
        }
    }
}

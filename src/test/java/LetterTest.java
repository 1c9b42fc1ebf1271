/** Promise 4: letter. */
public final class LetterTest {
    private static final Check check = new Check();

    public static void main(String[] args) {
        check.test("letter i of a row, from 0 on", LetterTest::fromZeroOn);
        check.test("letter 47 of a full row", LetterTest::lastOfFullRow);
        check.test("none before the first", LetterTest::beforeFirst);
        check.test("none right behind the last", LetterTest::behindLast);
        check.test("none far off", LetterTest::farOff);
        check.test("none in an empty row", LetterTest::emptyRow);
        check.test("none where one was cut", LetterTest::whereOneWasCut);
        check.test("none in no such row", LetterTest::noSuchRow);
        check.end();
    }

    private static void fromZeroOn() {
        SeedChainer x = Rows.of("3012", "120");
        for (int i = 0; i < 4; i++) {
            check.due("letter(0, " + i + ")", x.letter(0, i), (i + 3) % 4);
        }
        for (int i = 0; i < 3; i++) {
            check.due("letter(1, " + i + ")", x.letter(1, i), (i + 1) % 3);
        }
    }

    private static void lastOfFullRow() {
        SeedChainer x = Rows.of("0".repeat(47) + "2", "1".repeat(47) + "3");
        check.due("letter(0, 47)", x.letter(0, 47), 2);
        check.due("letter(1, 47)", x.letter(1, 47), 3);
        check.due("letter(0, 46)", x.letter(0, 46), 0);
        check.due("letter(1, 46)", x.letter(1, 46), 1);
    }

    private static void beforeFirst() {
        check.refusedInEveryState("letter(0, -1)", x -> x.letter(0, -1));
        check.refusedInEveryState("letter(1, -1)", x -> x.letter(1, -1));
    }

    private static void behindLast() {
        for (State state : State.values()) {
            for (int row = 0; row < 2; row++) {
                int asked = row;
                int i = state.size(row);
                check.refused(state, "letter(" + row + ", " + i + ")", x -> x.letter(asked, i));
            }
        }
    }

    private static void farOff() {
        for (int i : Wrong.FAR_OFF) {
            check.refusedInEveryState("letter(0, " + i + ")", x -> x.letter(0, i));
            check.refusedInEveryState("letter(1, " + i + ")", x -> x.letter(1, i));
        }
    }

    private static void emptyRow() {
        SeedChainer x = Rows.of("", "01");
        check.due("letter(0, 0)", x.letter(0, 0), -1);
        check.due("letter(0, 1)", x.letter(0, 1), -1);
        SeedChainer y = Rows.of("01", "");
        check.due("letter(1, 0)", y.letter(1, 0), -1);
        check.due("letter(1, 1)", y.letter(1, 1), -1);
    }

    private static void whereOneWasCut() {
        for (int row = 0; row < 2; row++) {
            SeedChainer x = Rows.of("123", "123");
            x.cut(row);
            check.due("letter(row, 2)", x.letter(row, 2), -1);
            check.due("letter(row, 1)", x.letter(row, 1), 2);
        }
    }

    private static void noSuchRow() {
        for (int row : Wrong.ROWS) {
            check.refusedInEveryState("letter(" + row + ", 0)", x -> x.letter(row, 0));
        }
    }
}

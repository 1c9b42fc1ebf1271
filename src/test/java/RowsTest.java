/** Promises 1 to 4: a new object, put, cut, letter. */
public final class RowsTest {
    private static final int[] NO_ROWS = {-1, 2, 3, Integer.MIN_VALUE, Integer.MAX_VALUE};
    private static final int[] NO_LETTERS = {-1, 4, 5, Integer.MIN_VALUE, Integer.MAX_VALUE};
    private static final Check check = new Check();

    public static void main(String[] args) {
        newObject();
        putAndLetter();
        putRefuses();
        fullRow();
        cutTakesTheLast();
        cutRefuses();
        letterRefuses();
        objectsAreApart();
        check.end();
    }

    private static void newObject() {
        SeedChainer x = new SeedChainer();
        check.due("NONE", SeedChainer.NONE, -1);
        check.due("new letter(0, 0)", x.letter(0, 0), -1);
        check.due("new letter(1, 0)", x.letter(1, 0), -1);
        check.due("new anchors()", x.anchors(), 0);
        check.due("new chain()", x.chain(), 0);
        check.due("new links()", x.links(), 0);
        check.due("new link(0, 0)", x.link(0, 0), -1);
        check.due("new anchor(0, 0)", x.anchor(0, 0), -1);
        for (int what = -1; what <= 4; what++) {
            check.due("new reached(" + what + ")", x.reached(what), -1);
        }
        check.due("new put(0, 0)", x.put(0, 0), 1);
        check.due("new put(1, 0)", x.put(1, 0), 1);
    }

    private static void putAndLetter() {
        SeedChainer x = new SeedChainer();
        for (int letter = 0; letter < 4; letter++) {
            check.due("put(0, " + letter + ")", x.put(0, letter), letter + 1);
        }
        check.due("put(1, 3)", x.put(1, 3), 1);
        check.due("put(1, 0)", x.put(1, 0), 2);
        for (int i = 0; i < 4; i++) {
            check.due("letter(0, " + i + ")", x.letter(0, i), i);
        }
        check.due("letter(1, 0)", x.letter(1, 0), 3);
        check.due("letter(1, 1)", x.letter(1, 1), 0);
    }

    private static void putRefuses() {
        SeedChainer x = Check.rows("12", "3");
        for (int row : NO_ROWS) {
            check.due("put(" + row + ", 0)", x.put(row, 0), -1);
        }
        for (int letter : NO_LETTERS) {
            check.due("put(0, " + letter + ")", x.put(0, letter), -1);
            check.due("put(1, " + letter + ")", x.put(1, letter), -1);
        }
        check.due("letter(0, 2) after refusals", x.letter(0, 2), -1);
        check.due("put(0, 0) after refusals", x.put(0, 0), 3);
        check.due("put(1, 0) after refusals", x.put(1, 0), 2);
    }

    private static void fullRow() {
        for (int row = 0; row < 2; row++) {
            SeedChainer x = new SeedChainer();
            for (int n = 1; n <= 48; n++) {
                check.due("put number " + n, x.put(row, n % 4), n);
            }
            check.due("put number 49", x.put(row, 1), -1);
            check.due("letter(row, 47)", x.letter(row, 47), 0);
            check.due("letter(row, 48)", x.letter(row, 48), -1);
            check.due("put in the other row", x.put(1 - row, 2), 1);
            check.due("cut of a full row", x.cut(row), 0);
            check.due("put behind the cut", x.put(row, 3), 48);
            check.due("letter(row, 47) then", x.letter(row, 47), 3);
            check.due("put when full again", x.put(row, 3), -1);
        }
    }

    private static void cutTakesTheLast() {
        SeedChainer x = Check.rows("013", "22");
        check.due("cut(0)", x.cut(0), 3);
        check.due("letter(0, 2)", x.letter(0, 2), -1);
        check.due("letter(0, 1)", x.letter(0, 1), 1);
        check.due("cut(1)", x.cut(1), 2);
        check.due("cut(0) again", x.cut(0), 1);
        check.due("put(0, 2)", x.put(0, 2), 2);
        check.due("letter(0, 1) then", x.letter(0, 1), 2);
        check.due("letter(1, 0)", x.letter(1, 0), 2);
    }

    private static void cutRefuses() {
        SeedChainer x = Check.rows("0", "");
        for (int row : NO_ROWS) {
            check.due("cut(" + row + ")", x.cut(row), -1);
        }
        check.due("cut(1) of an empty row", x.cut(1), -1);
        check.due("cut(0)", x.cut(0), 0);
        check.due("cut(0) of an emptied row", x.cut(0), -1);
        check.due("put(0, 1) after refusals", x.put(0, 1), 1);
    }

    private static void letterRefuses() {
        SeedChainer x = Check.rows("012", "3");
        for (int row : NO_ROWS) {
            check.due("letter(" + row + ", 0)", x.letter(row, 0), -1);
        }
        for (int i : new int[] {-1, 3, 47, 48, 49, Integer.MIN_VALUE, Integer.MAX_VALUE}) {
            check.due("letter(0, " + i + ")", x.letter(0, i), -1);
        }
        check.due("letter(1, 1)", x.letter(1, 1), -1);
    }

    private static void objectsAreApart() {
        SeedChainer x = Check.rows("01", "01");
        SeedChainer y = new SeedChainer();
        x.seeds(1);
        x.reach(0, 0);
        check.due("anchors() of another object", y.anchors(), 0);
        check.due("reached(2) of another object", y.reached(2), -1);
        check.due("put(0, 1) on another object", y.put(0, 1), 1);
    }
}

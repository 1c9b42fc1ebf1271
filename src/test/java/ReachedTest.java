/** Promise 14: reached. */
public final class ReachedTest {
    private static final Check check = new Check();
    // Alive of "100" and "00": all cells with p + q up to 2, then (2, 1), (2, 2), (3, 1) and (3, 2).
    private static final String REACHED = "3 2 10 5";

    public static void main(String[] args) {
        check.test("0 is p of the end and 1 is q", ReachedTest::placesOfTheEnd);
        check.test("2 is how many cells were alive, (0, 0) with them", ReachedTest::aliveCells);
        check.test("3 is the greatest p + q of these, beyond the end too", ReachedTest::farthest);
        check.test("NONE for another what", ReachedTest::anotherWhat);
        check.test("NONE for another what, and before there was one", ReachedTest::anotherWhatBefore);
        check.test("NONE before there was one", ReachedTest::beforeThereWasOne);
        check.test("NONE when each reach was NONE", ReachedTest::eachWasNone);
        check.test("of the latest reach", ReachedTest::latest);
        check.test("of the latest reach that was not NONE", ReachedTest::latestThatWasNotNone);
        check.test("whatever became of the rows since: letters put", ReachedTest::lettersPut);
        check.test("whatever became of the rows since: letters cut", ReachedTest::lettersCut);
        check.test("whatever became of the rows since: emptied", ReachedTest::emptied);
        check.test("whatever became of the rows since: filled", ReachedTest::filled);
        check.test("other settings change nothing of it", ReachedTest::otherSettings);
        check.test("other questions change nothing of it", ReachedTest::otherQuestions);
        check.end();
    }

    /** Rows whose reach from 0 and 0 on gives 16 and REACHED. */
    private static SeedChainer made() {
        SeedChainer x = Rows.of("100", "00");
        x.scores(9, 9, 2, 4);
        check.due("reach(0, 0)", x.reach(0, 0), 16);
        return x;
    }

    private static void placesOfTheEnd() {
        SeedChainer x = made();
        check.due("reached(0)", x.reached(0), 3);
        check.due("reached(1)", x.reached(1), 2);
    }

    private static void aliveCells() {
        check.due("reached(2)", made().reached(2), 10);
        SeedChainer x = new SeedChainer();
        x.reach(0, 0);
        check.due("reached(2) of empty rows", x.reached(2), 1);
        SeedChainer y = Rows.of("0", "1");
        y.scores(1, 1, 1, 0);
        y.reach(0, 0);
        check.due("reached(2) where only (0, 0) lives", y.reached(2), 1);
    }

    private static void farthest() {
        check.due("reached(3)", made().reached(3), 5);
        SeedChainer x = Rows.of("", "00");
        x.reach(0, 0);
        check.due("reached(3) beyond the end", x.reached(3), 2);
        check.due("reached(1) there", x.reached(1), 0);
        SeedChainer y = new SeedChainer();
        y.reach(0, 0);
        check.due("reached(3) of empty rows", y.reached(3), 0);
    }

    private static void anotherWhat() {
        SeedChainer x = made();
        for (int what : Wrong.WHAT) {
            check.due("reached(" + what + ")", x.reached(what), -1);
            check.same("reached then", Look.reached(x), REACHED);
        }
    }

    private static void anotherWhatBefore() {
        for (int what : Wrong.WHAT) {
            check.refusedInEveryState("reached(" + what + ")", x -> x.reached(what));
        }
    }

    private static void beforeThereWasOne() {
        for (int what = 0; what <= 3; what++) {
            int asked = what;
            for (State state : new State[] {State.NEW, State.FIRST_SETTINGS, State.FIRST_ROW_FULL, State.SECOND_ROW_FULL}) {
                check.refused(state, "reached(" + what + ")", x -> x.reached(asked));
            }
        }
    }

    private static void eachWasNone() {
        SeedChainer x = Rows.of("01", "01");
        x.reach(3, 0);
        x.reach(0, 3);
        x.reach(-1, -1);
        check.same("reached", Look.reached(x), "-1 -1 -1 -1");
    }

    private static void latest() {
        SeedChainer x = made();
        check.due("reach(3, 2)", x.reach(3, 2), 0);
        check.same("the lesser one that came later", Look.reached(x), "0 0 1 0");
        check.due("reach(1, 0)", x.reach(1, 0), 18);
        check.due("p of the greater one that came last", x.reached(0), 2);
        check.due("q of it", x.reached(1), 2);
    }

    private static void latestThatWasNotNone() {
        SeedChainer x = made();
        check.due("reach(4, 0)", x.reach(4, 0), -1);
        check.due("reach(0, 3)", x.reach(0, 3), -1);
        check.same("reached", Look.reached(x), REACHED);
    }

    private static void lettersPut() {
        SeedChainer x = made();
        Rows.fill(x, "0123", "0123");
        check.same("reached", Look.reached(x), REACHED);
    }

    private static void lettersCut() {
        SeedChainer x = made();
        x.cut(0);
        x.cut(1);
        check.same("reached", Look.reached(x), REACHED);
        check.due("reach(3, 2), no such places now", x.reach(3, 2), -1);
        check.same("reached then", Look.reached(x), REACHED);
    }

    private static void emptied() {
        SeedChainer x = made();
        Rows.empty(x);
        check.same("reached", Look.reached(x), REACHED);
        check.due("reach(0, 0)", x.reach(0, 0), 0);
        check.same("reached then", Look.reached(x), "0 0 1 0");
    }

    private static void filled() {
        SeedChainer x = made();
        Rows.fill(x, "1".repeat(48), "2".repeat(48));
        check.due("put in a full row", x.put(0, 1), -1);
        check.same("reached", Look.reached(x), REACHED);
    }

    private static void otherSettings() {
        SeedChainer x = made();
        x.seeds(1);
        x.penalty(9);
        x.scores(1, 0, 9, 99);
        check.same("reached", Look.reached(x), REACHED);
    }

    private static void otherQuestions() {
        SeedChainer x = made();
        x.letter(0, 0);
        x.anchors();
        x.anchor(0, 0);
        x.chain();
        x.links();
        x.link(0, 0);
        check.same("reached", Look.reached(x), REACHED);
        check.same("reached again", Look.reached(x), REACHED);
    }
}

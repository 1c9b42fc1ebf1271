/** Promise 13: reach, with what the terms say of REACHING. */
public final class ReachTest {
    private static final Check check = new Check();

    public static void main(String[] args) {
        places();
        cells();
        theEnd();
        check.end();
    }

    private static void places() {
        check.test("from two places on", ReachTest::fromPlacesOn);
        check.test("place 0 of empty rows", () -> reach(new SeedChainer(), 0, 0, 0, "0 0 1 0"));
        check.test("place as many as row 0 has letters", ReachTest::endOfRow0);
        check.test("place as many as row 1 has letters", ReachTest::endOfRow1);
        check.test("places as many as both have letters", ReachTest::endOfBoth);
        check.test("no such place in row 0: one too far", ReachTest::beyondRow0);
        check.test("no such place in row 1: one too far", ReachTest::beyondRow1);
        check.test("no such place in row 0: before 0", ReachTest::beforeRow0);
        check.test("no such place in row 1: before 0", ReachTest::beforeRow1);
        check.test("no such places in both rows", ReachTest::beyondBoth);
        check.test("no such places far off", ReachTest::farOff);
        check.test("i is a place of row 0 and j one of row 1", ReachTest::eachOfItsOwnRow);
        check.test("a place that went with a cut is none", ReachTest::placeWentWithCut);
        check.test("NONE, and what was reached before stays", ReachTest::reachedStays);
        check.test("NONE, and nothing was reached before", ReachTest::nothingReachedBefore);
    }

    private static void cells() {
        check.test("letters only as far as there are any", ReachTest::endsOfRows);
        check.test("LIMIT below the greatest is alive, one more is not", ReachTest::limit);
        check.test("a limit of 0", ReachTest::limitOfZero);
        check.test("the greatest of all slopes before counts", ReachTest::greatestOfAllSlopes);
        check.test("the greatest of its own slope doesn't count", ReachTest::ownSlope);
        check.test("the score is the greatest of the three ways", ReachTest::threeWays);
        check.test("no way goes through a cell that isn't alive", ReachTest::deadCells);
        check.test("a way goes over a slope with no cell alive", ReachTest::overDeadSlope);
        check.test("full rows, all alike", ReachTest::fullRows);
        check.test("the same reach again gives the same", ReachTest::again);
        check.test("nothing is left of an earlier reach", ReachTest::nothingLeftOfEarlier);
    }

    private static void theEnd() {
        check.test("the end: the greatest score, not the last cell", ReachTest::greatestScore);
        check.test("the end: of the same score the least p + q", ReachTest::leastSum);
        check.test("the end: (0, 0) when nothing is above 0", ReachTest::nothingAboveZero);
        check.test("the end: of the same p + q the least p", ReachTest::leastP);
    }

    private static void reach(SeedChainer x, int i, int j, int score, String reached) {
        String call = "reach(" + i + ", " + j + ")";
        check.due(call, x.reach(i, j), score);
        check.same("reached behind " + call, Look.reached(x), reached);
    }

    private static SeedChainer scored(String first, String second, int gain, int loss, int gap, int limit) {
        SeedChainer x = Rows.of(first, second);
        check.due("scores", x.scores(gain, loss, gap, limit), true);
        return x;
    }

    private static void fromPlacesOn() {
        SeedChainer x = scored("3301", "201", 2, 9, 9, 0);
        reach(x, 2, 1, 4, "2 2 3 4");
        reach(x, 3, 2, 2, "1 1 2 2");
        reach(x, 0, 0, 0, "0 0 1 0");
    }

    private static void endOfRow0() {
        reach(Rows.of("00", "000"), 2, 0, 0, "0 0 4 3");
        reach(Rows.of("", "000"), 0, 0, 0, "0 0 4 3");
        reach(State.FULL.make(), 48, 0, 0, "0 0 4 3");
        reach(State.FIRST_ROW_FULL.make(), 48, 1, 0, "0 0 3 2");
    }

    private static void endOfRow1() {
        reach(Rows.of("00", "000"), 0, 3, 0, "0 0 3 2");
        reach(Rows.of("000", ""), 0, 0, 0, "0 0 4 3");
        reach(State.FULL.make(), 0, 48, 0, "0 0 4 3");
        reach(State.SECOND_ROW_FULL.make(), 1, 48, 0, "0 0 3 2");
    }

    private static void endOfBoth() {
        for (State state : State.values()) {
            reach(state.make(), state.size0, state.size1, 0, "0 0 1 0");
        }
    }

    private static void beyondRow0() {
        for (State state : State.values()) {
            int i = state.size0 + 1;
            check.refused(state, "reach(" + i + ", 0)", x -> x.reach(i, 0));
            check.refused(state, "reach(" + i + ", " + state.size1 + ")", x -> x.reach(i, state.size1));
        }
    }

    private static void beyondRow1() {
        for (State state : State.values()) {
            int j = state.size1 + 1;
            check.refused(state, "reach(0, " + j + ")", x -> x.reach(0, j));
            check.refused(state, "reach(" + state.size0 + ", " + j + ")", x -> x.reach(state.size0, j));
        }
    }

    private static void beforeRow0() {
        for (State state : State.values()) {
            check.refused(state, "reach(-1, 0)", x -> x.reach(-1, 0));
            check.refused(state, "reach(-1, " + state.size1 + ")", x -> x.reach(-1, state.size1));
        }
    }

    private static void beforeRow1() {
        for (State state : State.values()) {
            check.refused(state, "reach(0, -1)", x -> x.reach(0, -1));
            check.refused(state, "reach(" + state.size0 + ", -1)", x -> x.reach(state.size0, -1));
        }
    }

    private static void beyondBoth() {
        for (State state : State.values()) {
            check.refused(state, "reach beyond both", x -> x.reach(state.size0 + 1, state.size1 + 1));
            check.refused(state, "reach(-1, -1)", x -> x.reach(-1, -1));
            check.refused(state, "reach(-1, beyond)", x -> x.reach(-1, state.size1 + 1));
        }
    }

    private static void farOff() {
        for (int place : Wrong.FAR_OFF) {
            check.refusedInEveryState("reach(" + place + ", 0)", x -> x.reach(place, 0));
            check.refusedInEveryState("reach(0, " + place + ")", x -> x.reach(0, place));
        }
    }

    private static void eachOfItsOwnRow() {
        SeedChainer x = Rows.of("0123", "0");
        reach(x, 4, 1, 0, "0 0 1 0");
        check.due("reach(1, 4)", x.reach(1, 4), -1);
        SeedChainer y = Rows.of("0", "0123");
        reach(y, 1, 4, 0, "0 0 1 0");
        check.due("reach(4, 1)", y.reach(4, 1), -1);
    }

    private static void placeWentWithCut() {
        SeedChainer x = Rows.of("01", "01");
        reach(x, 2, 2, 0, "0 0 1 0");
        x.cut(0);
        check.due("reach(2, 2) after cut(0)", x.reach(2, 2), -1);
        check.due("reach(1, 2) after cut(0)", x.reach(1, 2), 0);
        x.cut(1);
        check.due("reach(1, 2) after cut(1)", x.reach(1, 2), -1);
        x.put(1, 3);
        check.due("reach(1, 2) after put(1, 3)", x.reach(1, 2), 0);
    }

    private static void reachedStays() {
        SeedChainer x = scored("00", "000", 2, 9, 9, 0);
        reach(x, 0, 1, 4, "2 2 3 4");
        for (int[] place : new int[][] {{-1, 0}, {0, -1}, {3, 0}, {0, 4}, {3, 4}}) {
            check.due("reach(" + place[0] + ", " + place[1] + ")", x.reach(place[0], place[1]), -1);
            check.same("reached then", Look.reached(x), "2 2 3 4");
        }
    }

    private static void nothingReachedBefore() {
        SeedChainer x = Rows.of("00", "000");
        check.due("reach(3, 0)", x.reach(3, 0), -1);
        check.due("reach(0, 4)", x.reach(0, 4), -1);
        check.same("reached", Look.reached(x), "-1 -1 -1 -1");
        check.due("reach(0, 0)", x.reach(0, 0), 4);
    }

    private static void endsOfRows() {
        // All cells of 3 letters and 2 are alive, and no other.
        reach(scored("000", "00", 1, 0, 1, 99), 0, 0, 2, "2 2 12 5");
        reach(scored("000", "00", 1, 0, 1, 99), 1, 1, 1, "1 1 6 3");
        // Letters that were cut are there no more.
        SeedChainer x = scored("0000", "0000", 9, 9, 9, 0);
        x.cut(0);
        x.cut(0);
        reach(x, 0, 0, 18, "2 2 3 4");
    }

    private static void limit() {
        reach(scored("0", "1", 9, 5, 9, 5), 0, 0, 0, "0 0 2 2");
        reach(scored("0", "1", 9, 5, 9, 4), 0, 0, 0, "0 0 1 0");
        // The same by gaps: 3 each.
        reach(scored("", "000", 9, 9, 3, 6), 0, 0, 0, "0 0 3 2");
        reach(scored("", "000", 9, 9, 3, 5), 0, 0, 0, "0 0 2 1");
        reach(scored("000", "", 9, 9, 3, 6), 0, 0, 0, "0 0 3 2");
        reach(scored("000", "", 9, 9, 3, 5), 0, 0, 0, "0 0 2 1");
    }

    private static void limitOfZero() {
        // A loss of 0 is no more than 0 below, a loss of 1 is more.
        reach(scored("0", "1", 1, 0, 1, 0), 0, 0, 0, "0 0 2 2");
        reach(scored("0", "1", 1, 1, 1, 0), 0, 0, 0, "0 0 1 0");
    }

    private static void greatestOfAllSlopes() {
        // (1, 1) scores 5 on slope 2; each loss of 2 counts from there, two and four slopes on.
        reach(scored("0111", "0222", 5, 2, 9, 3), 0, 0, 5, "1 1 3 4");
        reach(scored("0111", "0222", 5, 2, 9, 4), 0, 0, 5, "1 1 4 6");
    }

    private static void ownSlope() {
        // On slope 2 (1, 1) scores 9, yet (0, 2) and (2, 0) with -2 live by the slopes before.
        // Alive: 1, then 2 with -1, 3 on slope 2, 2 with 9 - 1, and 1 with 18.
        reach(scored("00", "00", 9, 0, 1, 2), 0, 0, 18, "2 2 9 4");
    }

    private static void threeWays() {
        // By a letter of row 0 alone, by one of row 1 alone, by one of both that differ.
        reach(scored("100", "00", 9, 9, 2, 99), 0, 0, 16, "3 2 12 5");
        reach(scored("00", "100", 9, 9, 2, 99), 0, 0, 16, "2 3 12 5");
        reach(scored("100", "200", 9, 3, 2, 99), 0, 0, 15, "3 3 16 6");
        reach(scored("100", "200", 9, 5, 2, 99), 0, 0, 14, "3 3 16 6");
    }

    private static void deadCells() {
        // (1, 1) is dead, so (2, 2) has no cell before it, though by its letters it would score well.
        reach(scored("100", "200", 9, 3, 4, 2), 0, 0, 0, "0 0 1 0");
        reach(scored("100", "200", 9, 3, 4, 3), 0, 0, 15, "3 3 4 6");
    }

    private static void overDeadSlope() {
        // The odd slopes hold no cell alive.
        reach(scored("0123", "0123", 1, 9, 9, 1), 0, 0, 4, "4 4 5 8");
    }

    private static void fullRows() {
        SeedChainer x = scored("0".repeat(48), "0".repeat(48), 9, 0, 1, 99);
        check.due("reach(0, 0)", x.reach(0, 0), 432);
        check.due("p", x.reached(0), 48);
        check.due("q", x.reached(1), 48);
        check.due("the farthest", x.reached(3), 96);
        reach(x, 0, 48, 0, "0 0 49 48");
        reach(x, 48, 0, 0, "0 0 49 48");
        reach(x, 47, 47, 9, "1 1 4 2");
    }

    private static void again() {
        SeedChainer x = scored("01230123", "0123123", 3, 2, 1, 9);
        int score = x.reach(0, 0);
        String reached = Look.reached(x);
        x.reach(3, 2);
        reach(x, 0, 0, score, reached);
        reach(x, 0, 0, score, reached);
    }

    private static void nothingLeftOfEarlier() {
        SeedChainer x = scored("0", "0", 9, 9, 1, 99);
        reach(x, 0, 0, 9, "1 1 4 2");
        x.cut(1);
        x.put(1, 1);
        reach(x, 0, 0, 0, "0 0 4 2");
        Rows.fill(x, "00", "00");
        check.due("reach(1, 1) between them", x.reach(1, 1), 18);
        x.cut(0);
        x.cut(0);
        x.cut(1);
        x.cut(1);
        reach(x, 0, 0, 0, "0 0 4 2");
    }

    private static void greatestScore() {
        // Behind (2, 2) all letters differ; the last cell alive stands beyond the end.
        reach(scored("0111", "0122", 4, 1, 9, 2), 0, 0, 8, "2 2 5 8");
    }

    private static void leastSum() {
        // (1, 1) and (2, 2) both score 1.
        reach(scored("01", "02", 1, 0, 9, 0), 0, 0, 1, "1 1 3 4");
        // (1, 1) and (3, 3) both score 2.
        reach(scored("010", "020", 2, 2, 9, 5), 0, 0, 2, "1 1 4 6");
    }

    private static void nothingAboveZero() {
        reach(scored("0", "1", 1, 0, 9, 99), 0, 0, 0, "0 0 4 2");
        reach(scored("01", "23", 9, 1, 1, 99), 0, 0, 0, "0 0 9 4");
    }

    private static void leastP() {
        // (1, 2) and (2, 1) both score 9 - 1; (1, 1) is dead, and (2, 2) scores 7.
        reach(scored("01", "10", 9, 9, 1, 1), 0, 0, 8, "1 2 6 4");
    }
}

/** Promises 13 and 14: reach, reached. */
public final class ReachTest {
    private static final Check check = new Check();

    public static void main(String[] args) {
        emptyRows();
        fromPlacesOn();
        theEndsOfTheRows();
        reachRefuses();
        limitIsKept();
        sameSlopeDoesNotCount();
        deadCellsAreNoWay();
        theFirstOfEqualEnds();
        whatWasReachedStays();
        reachedRefuses();
        fullRows();
        check.end();
    }

    private static void reach(SeedChainer x, int i, int j, int score, String reached) {
        String call = "reach(" + i + ", " + j + ")";
        check.due(call, x.reach(i, j), score);
        check.same("reached behind " + call, Check.reachedOf(x), reached);
    }

    private static void emptyRows() {
        reach(new SeedChainer(), 0, 0, 0, "0 0 1 0");
    }

    private static void fromPlacesOn() {
        SeedChainer x = Check.rows("3301", "201");
        x.scores(2, 9, 9, 0);
        reach(x, 2, 1, 4, "2 2 3 4");
        reach(x, 3, 2, 2, "1 1 2 2");
        reach(x, 0, 0, 0, "0 0 1 0");
    }

    private static void theEndsOfTheRows() {
        SeedChainer x = Check.rows("00", "000");
        reach(x, 2, 3, 0, "0 0 1 0");
        reach(x, 2, 0, 0, "0 0 4 3");
        reach(x, 0, 3, 0, "0 0 3 2");
    }

    private static void reachRefuses() {
        SeedChainer x = Check.rows("00", "000");
        for (int bad : new int[] {-1, 3, 48, 49, Integer.MIN_VALUE, Integer.MAX_VALUE}) {
            check.due("reach(" + bad + ", 0) before any", x.reach(bad, 0), -1);
        }
        check.same("before any", Check.reachedOf(x), "-1 -1 -1 -1");
        x.scores(2, 9, 9, 0);
        reach(x, 0, 1, 4, "2 2 3 4");
        for (int bad : new int[] {-1, 4, 48, 49, Integer.MIN_VALUE, Integer.MAX_VALUE}) {
            check.due("reach(0, " + bad + ")", x.reach(0, bad), -1);
            check.due("reach(" + bad + ", " + bad + ")", x.reach(bad, bad), -1);
            check.same("after refusals", Check.reachedOf(x), "2 2 3 4");
        }
        check.due("reach(3, 0)", x.reach(3, 0), -1);
    }

    private static void limitIsKept() {
        SeedChainer x = Check.rows("0", "1");
        x.scores(9, 5, 9, 5);
        reach(x, 0, 0, 0, "0 0 2 2");
        x.scores(9, 5, 9, 4);
        reach(x, 0, 0, 0, "0 0 1 0");
        // The greatest score of any slope before counts, not that of the slope right before.
        SeedChainer y = Check.rows("0111", "0222");
        y.scores(5, 2, 9, 3);
        reach(y, 0, 0, 5, "1 1 3 4");
        y.scores(5, 2, 9, 4);
        reach(y, 0, 0, 5, "1 1 4 6");
    }

    private static void sameSlopeDoesNotCount() {
        // On slope 2 the cell (1, 1) scores 9, and (2, 0) and (0, 2) with -2 live by the slopes before.
        SeedChainer x = Check.rows("00", "00");
        x.scores(9, 0, 1, 2);
        // Alive: 1, then 2 with -1, 3 on slope 2, 2 with 9 - 1, and 1 with 18.
        reach(x, 0, 0, 18, "2 2 9 4");
    }

    private static void deadCellsAreNoWay() {
        // (1, 1) is dead, so (2, 2) has no cell before it, though by its letters it would score well.
        SeedChainer x = Check.rows("100", "200");
        x.scores(9, 3, 4, 2);
        reach(x, 0, 0, 0, "0 0 1 0");
        x.scores(9, 3, 4, 3);
        reach(x, 0, 0, 15, "3 3 4 6");
    }

    private static void theFirstOfEqualEnds() {
        // The first cell keeps the end when a later one has the same score.
        SeedChainer x = Check.rows("0", "1");
        x.scores(1, 0, 9, 99);
        reach(x, 0, 0, 0, "0 0 4 2");
        // (1, 2) and (2, 1) both score 9 - 1: of the same p + q the less p. (1, 1) is dead, (2, 2) scores 7.
        SeedChainer y = Check.rows("01", "10");
        y.scores(9, 9, 1, 1);
        reach(y, 0, 0, 8, "1 2 6 4");
        // (1, 1) and (2, 2) both score 1: the less p + q.
        SeedChainer z = Check.rows("01", "02");
        z.scores(1, 0, 9, 0);
        reach(z, 0, 0, 1, "1 1 3 4");
    }

    private static void whatWasReachedStays() {
        SeedChainer x = Check.rows("01", "01");
        x.scores(2, 9, 9, 0);
        reach(x, 0, 0, 4, "2 2 3 4");
        x.cut(0);
        x.cut(0);
        x.cut(1);
        x.put(1, 3);
        x.seeds(1);
        x.penalty(3);
        x.scores(9, 9, 9, 99);
        x.chain();
        check.same("after changes", Check.reachedOf(x), "2 2 3 4");
        check.due("reach(1, 0)", x.reach(1, 0), -1);
        check.same("after a refused reach", Check.reachedOf(x), "2 2 3 4");
        reach(x, 0, 2, 0, "0 0 1 0");
    }

    private static void reachedRefuses() {
        SeedChainer x = Check.rows("01", "01");
        x.reach(0, 0);
        for (int what : new int[] {-1, 4, 5, Integer.MIN_VALUE, Integer.MAX_VALUE}) {
            check.due("reached(" + what + ")", x.reached(what), -1);
        }
    }

    private static void fullRows() {
        SeedChainer x = Check.rows("0".repeat(48), "0".repeat(48));
        x.scores(9, 0, 1, 99);
        check.due("reach(0, 0) of full rows", x.reach(0, 0), 432);
        check.due("p", x.reached(0), 48);
        check.due("q", x.reached(1), 48);
        check.due("the farthest", x.reached(3), 96);
        reach(x, 48, 48, 0, "0 0 1 0");
        check.due("reach(49, 48)", x.reach(49, 48), -1);
        check.due("reach(48, 49)", x.reach(48, 49), -1);
        reach(x, 0, 48, 0, "0 0 49 48");
    }
}

/** Promises 5 to 7: seeds, penalty, scores, each with what it changes and what a refusal leaves alone. */
public final class SettingsTest {
    private static final Check check = new Check();

    public static void main(String[] args) {
        firstSettings();
        seedsRange();
        seedsRefuses();
        penaltyRange();
        penaltyRefuses();
        scoresRange();
        scoresRefuses();
        scoresCountFromTheNextReachOn();
        check.end();
    }

    private static void firstSettings() {
        SeedChainer x = Check.rows("0010", "0000");
        check.same("anchors of K 2 at first", Check.anchorsOf(x), "3: 0,0 0,1 0,2");
        SeedChainer y = Check.rows("01233", "01023");
        // 0,0 and 2,3: no letter of row 0 between, one of row 1.
        check.same("penalty 1 at first", Check.chainOf(y), "39: 0,0 2,3");
        SeedChainer z = Check.rows("00", "00");
        check.due("gain 2 at first", z.reach(0, 0), 4);
        SeedChainer w = Check.rows("0300", "0100");
        check.due("loss 1 at first", w.reach(0, 0), 5);
        SeedChainer v = Check.rows("01000", "0000");
        check.due("gap 2 at first", v.reach(0, 0), 6);
        // Six letters that differ cost 6, a seventh would cost 7.
        SeedChainer u = Check.rows("00000000", "11111111");
        u.reach(0, 0);
        check.same("limit 6 at first", Check.reachedOf(u), "0 0 25 12");
    }

    private static void seedsRange() {
        SeedChainer x = Check.rows("0000000", "0000000");
        for (int k = 6; k >= 1; k--) {
            check.due("seeds(" + k + ")", x.seeds(k), true);
            check.due("anchors() of K " + k, x.anchors(), (8 - k) * (8 - k));
            check.due("links() of K " + k, x.links(), 7 / k);
            check.due("chain() of K " + k, x.chain(), 7 / k * 10 * k);
        }
        check.due("seeds(1) again", x.seeds(1), true);
    }

    private static void seedsRefuses() {
        SeedChainer x = Check.rows("01230", "01230");
        x.seeds(3);
        for (int k : new int[] {0, 7, -1, 8, Integer.MIN_VALUE, Integer.MAX_VALUE}) {
            check.due("seeds(" + k + ")", x.seeds(k), false);
            check.same("chain after seeds(" + k + ")", Check.chainOf(x), "30: 0,0");
            check.due("anchors() after seeds(" + k + ")", x.anchors(), 3);
        }
    }

    private static void penaltyRange() {
        SeedChainer x = Check.rows("0123012", "01222012");
        x.seeds(3);
        // 0,0 and 4,5: one letter of row 0 and two of row 1 between.
        for (int g = 0; g <= 9; g++) {
            check.due("penalty(" + g + ")", x.penalty(g), true);
            check.same("chain of penalty " + g, Check.chainOf(x), (60 - 3 * g) + ": 0,0 4,5");
        }
    }

    private static void penaltyRefuses() {
        SeedChainer x = Check.rows("01233", "01023");
        x.penalty(4);
        for (int g : new int[] {-1, 10, 11, Integer.MIN_VALUE, Integer.MAX_VALUE}) {
            check.due("penalty(" + g + ")", x.penalty(g), false);
            check.same("chain after penalty(" + g + ")", Check.chainOf(x), "36: 0,0 2,3");
        }
    }

    private static void scoresRange() {
        SeedChainer x = Check.rows("00", "00");
        for (int gain = 1; gain <= 9; gain++) {
            check.due("scores of gain " + gain, x.scores(gain, 1, 2, 6), true);
            check.due("reach of gain " + gain, x.reach(0, 0), 2 * gain);
        }
        SeedChainer y = Check.rows("010", "020");
        for (int loss = 0; loss <= 9; loss++) {
            check.due("scores of loss " + loss, y.scores(9, loss, 9, 99), true);
            check.due("reach of loss " + loss, y.reach(0, 0), 18 - loss);
        }
        SeedChainer z = Check.rows("0100", "000");
        for (int gap = 1; gap <= 8; gap++) {
            check.due("scores of gap " + gap, z.scores(9, 9, gap, 99), true);
            check.due("reach of gap " + gap, z.reach(0, 0), 27 - gap);
        }
        check.due("scores of gap 9", z.scores(9, 9, 9, 99), true);
        check.due("reach of gap 9", z.reach(0, 0), 18);
        SeedChainer w = Check.rows("", "0".repeat(48));
        for (int limit = 0; limit <= 99; limit++) {
            check.due("scores of limit " + limit, w.scores(1, 0, 3, limit), true);
            check.due("reach of limit " + limit, w.reach(0, 0), 0);
            check.due("alive of limit " + limit, w.reached(2), 1 + limit / 3);
        }
    }

    private static void scoresRefuses() {
        SeedChainer x = Check.rows("01000", "0000");
        x.scores(3, 2, 1, 5);
        x.reach(0, 0);
        String before = Check.reachedOf(x);
        int[][] refused = {
            {0, 1, 2, 6}, {10, 1, 2, 6}, {-1, 1, 2, 6}, {Integer.MAX_VALUE, 1, 2, 6},
            {2, -1, 2, 6}, {2, 10, 2, 6}, {2, Integer.MIN_VALUE, 2, 6},
            {2, 1, 0, 6}, {2, 1, 10, 6}, {2, 1, -1, 6}, {2, 1, Integer.MAX_VALUE, 6},
            {2, 1, 2, -1}, {2, 1, 2, 100}, {2, 1, 2, Integer.MIN_VALUE}, {0, -1, 0, -1},
        };
        for (int[] r : refused) {
            String call = "scores(" + r[0] + ", " + r[1] + ", " + r[2] + ", " + r[3] + ")";
            check.due(call, x.scores(r[0], r[1], r[2], r[3]), false);
            check.due("reach after " + call, x.reach(0, 0), 11);
            check.same("reached after " + call, Check.reachedOf(x), before);
        }
        for (int[] r : new int[][] {{1, 0, 1, 0}, {9, 9, 9, 99}}) {
            check.due("scores at the edges", x.scores(r[0], r[1], r[2], r[3]), true);
        }
    }

    private static void scoresCountFromTheNextReachOn() {
        SeedChainer x = Check.rows("00", "00");
        x.reach(0, 0);
        String before = Check.reachedOf(x);
        x.scores(9, 0, 1, 99);
        check.same("what was reached stays after scores", Check.reachedOf(x), before);
        check.due("reach by the new scores", x.reach(0, 0), 18);
        check.same("reached by the new scores", Check.reachedOf(x), "2 2 9 4");
    }
}

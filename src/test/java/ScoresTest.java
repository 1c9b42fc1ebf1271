/** Promise 7: scores. */
public final class ScoresTest {
    private static final Check check = new Check();

    public static void main(String[] args) {
        check.test("gain becomes each number of 1 .. 9", ScoresTest::eachGain);
        check.test("loss becomes each number of 0 .. 9", ScoresTest::eachLoss);
        check.test("gap becomes each number of 1 .. 9", ScoresTest::eachGap);
        check.test("limit becomes each number of 0 .. 99", ScoresTest::eachLimit);
        check.test("all four at their least", ScoresTest::allLeast);
        check.test("all four at their greatest", ScoresTest::allGreatest);
        check.test("a gain of 0 is too small", () -> denied(0, 4, 4, 44));
        check.test("a gain of 10 is too large", () -> denied(10, 4, 4, 44));
        check.test("a loss of -1 is too small", () -> denied(4, -1, 4, 44));
        check.test("a loss of 10 is too large", () -> denied(4, 10, 4, 44));
        check.test("a gap of 0 is too small", () -> denied(4, 4, 0, 44));
        check.test("a gap of 10 is too large", () -> denied(4, 4, 10, 44));
        check.test("a limit of -1 is too small", () -> denied(4, 4, 4, -1));
        check.test("a limit of 100 is too large", () -> denied(4, 4, 4, 100));
        check.test("several that are not such", ScoresTest::severalWrong);
        check.test("far off", ScoresTest::farOff);
        check.test("the others count from the next reach on", ScoresTest::fromTheNextReachOn);
        check.test("rows, K and penalty stay", ScoresTest::othersStay);
        check.end();
    }

    private static void denied(int gain, int loss, int gap, int limit) {
        String call = "scores(" + gain + ", " + loss + ", " + gap + ", " + limit + ")";
        check.deniedInEveryState(call, x -> x.scores(gain, loss, gap, limit));
    }

    private static void eachGain() {
        SeedChainer x = Rows.of("00", "00");
        for (int gain = 1; gain <= 9; gain++) {
            check.due("scores of gain " + gain, x.scores(gain, 1, 2, 6), true);
            check.due("reach of gain " + gain, x.reach(0, 0), 2 * gain);
        }
    }

    private static void eachLoss() {
        // Round the letter that differs go two gaps, which cost more than any loss.
        SeedChainer x = Rows.of("01000", "02000");
        for (int loss = 0; loss <= 9; loss++) {
            check.due("scores of loss " + loss, x.scores(9, loss, 9, 99), true);
            check.due("reach of loss " + loss, x.reach(0, 0), 36 - loss);
        }
    }

    private static void eachGap() {
        // One gap and seven gains; without a gap there is a loss and a gain less.
        SeedChainer x = Rows.of("01000000", "0000000");
        for (int gap = 1; gap <= 9; gap++) {
            check.due("scores of gap " + gap, x.scores(9, 9, gap, 99), true);
            check.due("reach of gap " + gap, x.reach(0, 0), 63 - gap);
        }
    }

    private static void eachLimit() {
        // Of row 1 alone: each letter costs a gap of 3, and of those two rows each letter a loss of 1.
        SeedChainer x = Rows.of("", "0".repeat(48));
        for (int limit = 0; limit <= 99; limit++) {
            check.due("scores of limit " + limit, x.scores(1, 0, 3, limit), true);
            check.due("reach of limit " + limit, x.reach(0, 0), 0);
            check.due("alive of limit " + limit, x.reached(2), 1 + limit / 3);
        }
        SeedChainer y = Rows.of("0".repeat(48), "1".repeat(48));
        for (int limit = 0; limit <= 48; limit++) {
            check.due("scores of limit " + limit, y.scores(1, 1, 9, limit), true);
            check.due("reach of limit " + limit, y.reach(0, 0), 0);
            check.due("the farthest of limit " + limit, y.reached(3), 2 * limit);
        }
    }

    private static void allLeast() {
        SeedChainer x = Rows.of("001", "002");
        check.due("scores(1, 0, 1, 0)", x.scores(1, 0, 1, 0), true);
        check.due("reach(0, 0)", x.reach(0, 0), 2);
        // Alive: the four on the way straight on, the last by a loss of 0.
        check.same("reached", Look.reached(x), "2 2 4 6");
    }

    private static void allGreatest() {
        SeedChainer x = Rows.of("", "0".repeat(48));
        check.due("scores(9, 9, 9, 99)", x.scores(9, 9, 9, 99), true);
        check.due("reach(0, 0)", x.reach(0, 0), 0);
        // Eleven gaps cost 99, a twelfth 108.
        check.same("reached", Look.reached(x), "0 0 12 11");
        Rows.append(x, 0, "0".repeat(48));
        check.due("reach(0, 0) of the same letters", x.reach(0, 0), 432);
    }

    private static void severalWrong() {
        denied(0, -1, 0, -1);
        denied(10, 10, 10, 100);
        denied(0, 10, 4, 44);
        denied(4, 4, 0, 100);
    }

    private static void farOff() {
        for (int number : new int[] {Integer.MIN_VALUE, Integer.MAX_VALUE, -9, 101}) {
            denied(number, 4, 4, 44);
            denied(4, number, 4, 44);
            denied(4, 4, number, 44);
            denied(4, 4, 4, number);
        }
    }

    private static void fromTheNextReachOn() {
        SeedChainer x = Rows.of("00", "00");
        x.reach(0, 0);
        String before = Look.reached(x);
        x.scores(9, 0, 1, 99);
        check.same("what was reached stays after scores", Look.reached(x), before);
        check.due("reach by the new scores", x.reach(0, 0), 18);
        check.same("reached by the new scores", Look.reached(x), "2 2 9 4");
    }

    private static void othersStay() {
        for (Probe probe : Probe.values()) {
            if (probe != Probe.SCORES) {
                SeedChainer x = State.OTHER_SETTINGS.make();
                x.scores(9, 8, 7, 66);
                check.same(probe + " after scores", probe.read(x), probe.read(State.OTHER_SETTINGS.make()));
            }
        }
    }
}

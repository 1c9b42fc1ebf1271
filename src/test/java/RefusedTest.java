/** "A call that is refused changes nothing": all refused calls one after another, in each state. */
public final class RefusedTest {
    private static final Check check = new Check();

    public static void main(String[] args) {
        for (State state : State.values()) {
            check.test("all refused calls in state " + state, () -> {
                for (Probe probe : Probe.values()) {
                    SeedChainer x = state.make();
                    refuseAll(state, x);
                    check.same(probe + " behind them", probe.read(x), probe.read(state.make()));
                }
            });
        }
        check.end();
    }

    private static void refuseAll(State state, SeedChainer x) {
        refuseRowCalls(state, x);
        check.due("seeds(0)", x.seeds(0), false);
        check.due("seeds(7)", x.seeds(7), false);
        check.due("penalty(-1)", x.penalty(-1), false);
        check.due("penalty(10)", x.penalty(10), false);
        check.due("scores(0, 3, 3, 33)", x.scores(0, 3, 3, 33), false);
        check.due("scores(3, 10, 3, 33)", x.scores(3, 10, 3, 33), false);
        check.due("scores(3, 3, 0, 33)", x.scores(3, 3, 0, 33), false);
        check.due("scores(3, 3, 3, 100)", x.scores(3, 3, 3, 100), false);
        check.due("anchor(-1, 0)", x.anchor(-1, 0), -1);
        check.due("anchor(0, 2)", x.anchor(0, 2), -1);
        check.due("link(-1, 0)", x.link(-1, 0), -1);
        check.due("link(48, 1)", x.link(48, 1), -1);
        check.due("reach beyond row 0", x.reach(state.size0 + 1, 0), -1);
        check.due("reach beyond row 1", x.reach(0, state.size1 + 1), -1);
        check.due("reach(-1, -1)", x.reach(-1, -1), -1);
        check.due("reached(4)", x.reached(4), -1);
    }

    private static void refuseRowCalls(State state, SeedChainer x) {
        check.due("put(2, 0)", x.put(2, 0), -1);
        check.due("put(0, 4)", x.put(0, 4), -1);
        check.due("put(1, -1)", x.put(1, -1), -1);
        check.due("cut(-1)", x.cut(-1), -1);
        check.due("letter(2, 0)", x.letter(2, 0), -1);
        for (int row = 0; row < 2; row++) {
            check.due("letter behind the last", x.letter(row, state.size(row)), -1);
            if (state.size(row) == 48) {
                check.due("put in a full row", x.put(row, 2), -1);
            }
            if (state.size(row) == 0) {
                check.due("cut of an empty row", x.cut(row), -1);
            }
        }
    }
}

/** States of an object, each made anew at each asking, so that two objects in the same state can be laid side by side. */
enum State {
    NEW(0, 0),
    FIRST_SETTINGS(7, 6),
    OTHER_SETTINGS(7, 6),
    FIRST_ROW_FULL(48, 3),
    SECOND_ROW_FULL(3, 48),
    FULL(48, 48),
    EMPTIED(0, 0);

    final int size0;
    final int size1;

    State(int size0, int size1) {
        this.size0 = size0;
        this.size1 = size1;
    }

    SeedChainer make() {
        SeedChainer x = new SeedChainer();
        switch (this) {
            case NEW -> { }
            case FIRST_SETTINGS -> Rows.fill(x, "0123012", "301231");
            case OTHER_SETTINGS -> otherSettings(x);
            case FIRST_ROW_FULL -> Rows.fill(x, "0123".repeat(12), "123");
            case SECOND_ROW_FULL -> Rows.fill(x, "312", "1203".repeat(12));
            case FULL -> full(x);
            case EMPTIED -> emptied(x);
        }
        return x;
    }

    int size(int row) {
        return row == 0 ? size0 : size1;
    }

    // The best chain and a reach are asked for, so that a refused call finds something that it could spoil.
    private static void otherSettings(SeedChainer x) {
        Rows.fill(x, "0123012", "301231");
        x.seeds(1);
        x.penalty(4);
        x.scores(3, 2, 1, 5);
        x.chain();
        x.reach(1, 2);
    }

    private static void full(SeedChainer x) {
        Rows.fill(x, "0123".repeat(12), "0132".repeat(12));
        x.chain();
        x.reach(3, 5);
    }

    private static void emptied(SeedChainer x) {
        Rows.fill(x, "012", "0122");
        x.seeds(3);
        x.reach(0, 0);
        Rows.empty(x);
        x.chain();
    }
}

/** Promise 1: a new object, with what the terms say of it "at first". */
public final class NewObjectTest {
    private static final Check check = new Check();

    public static void main(String[] args) {
        check.test("NONE is -1", () -> check.due("NONE", SeedChainer.NONE, -1));
        check.test("empty rows", NewObjectTest::emptyRows);
        check.test("no anchors and a chain of none", NewObjectTest::noAnchors);
        check.test("nothing was reached for", NewObjectTest::nothingReached);
        check.test("K is 2 at first", NewObjectTest::firstK);
        check.test("the penalty is 1 at first", NewObjectTest::firstPenalty);
        check.test("gain is 2 at first", NewObjectTest::firstGain);
        check.test("loss is 1 at first", NewObjectTest::firstLoss);
        check.test("gap is 2 at first", NewObjectTest::firstGap);
        check.test("limit is 6 at first", NewObjectTest::firstLimit);
        check.test("an object knows nothing of others", NewObjectTest::objectsAreApart);
        check.end();
    }

    private static void emptyRows() {
        for (int row = 0; row < 2; row++) {
            SeedChainer x = new SeedChainer();
            check.due("letter(row, 0)", x.letter(row, 0), -1);
            check.due("cut(row)", x.cut(row), -1);
            check.due("put(row, 0)", x.put(row, 0), 1);
        }
    }

    private static void noAnchors() {
        SeedChainer x = new SeedChainer();
        check.due("anchors()", x.anchors(), 0);
        check.due("anchor(0, 0)", x.anchor(0, 0), -1);
        check.due("chain()", x.chain(), 0);
        check.due("links()", x.links(), 0);
        check.due("link(0, 0)", x.link(0, 0), -1);
    }

    private static void nothingReached() {
        SeedChainer x = new SeedChainer();
        for (int what = -1; what <= 4; what++) {
            check.due("reached(" + what + ")", x.reached(what), -1);
        }
    }

    private static void firstK() {
        check.same("anchors", Look.anchors(Rows.of("0010", "0000")), "3: 0,0 0,1 0,2");
        check.due("chain()", Rows.of("01", "01").chain(), 20);
        check.due("anchors() of single letters", Rows.of("0", "0").anchors(), 0);
    }

    private static void firstPenalty() {
        // No letter of row 0 stands between 0,0 and 2,3, and one of row 1.
        check.same("the chain", Look.chain(Rows.of("01233", "01023")), "39: 0,0 2,3");
    }

    private static void firstGain() {
        check.due("reach(0, 0)", Rows.of("00", "00").reach(0, 0), 4);
    }

    private static void firstLoss() {
        check.due("reach(0, 0)", Rows.of("0300", "0100").reach(0, 0), 5);
    }

    private static void firstGap() {
        check.due("reach(0, 0)", Rows.of("01000", "0000").reach(0, 0), 6);
    }

    private static void firstLimit() {
        // Three gaps cost 6, which is alive; a fourth would cost 8.
        SeedChainer x = Rows.of("", "00000");
        x.reach(0, 0);
        check.same("reached by gaps", Look.reached(x), "0 0 4 3");
        // Six letters that differ cost 6, a seventh would cost 7.
        SeedChainer y = Rows.of("00000000", "11111111");
        y.reach(0, 0);
        check.due("the farthest by losses", y.reached(3), 12);
    }

    private static void objectsAreApart() {
        SeedChainer used = Rows.of("01", "01");
        SeedChainer beside = new SeedChainer();
        used.seeds(1);
        used.penalty(9);
        used.scores(9, 9, 9, 99);
        used.chain();
        used.reach(0, 0);
        for (Probe probe : Probe.values()) {
            check.same(probe + " of an object made later", probe.read(new SeedChainer()), probe.read(State.NEW.make()));
        }
        check.due("anchors() of one made before", beside.anchors(), 0);
        check.due("reached(2) of one made before", beside.reached(2), -1);
        check.due("put(0, 1) on one made before", beside.put(0, 1), 1);
        check.due("letter(0, 0) of the first", used.letter(0, 0), 0);
    }
}

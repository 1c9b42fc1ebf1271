/** Promises 10 to 12: chain, links, link. */
public final class ChainTest {
    private static final Check check = new Check();

    public static void main(String[] args) {
        noAnchors();
        anchorsMayTouchButNotOverlap();
        lettersOutsideCostNothing();
        firstOfEqualChains();
        beginningComesFirst();
        followChanges();
        linkRefuses();
        most();
        check.end();
    }

    private static void noAnchors() {
        check.same("chain of no anchors", Check.chainOf(Check.rows("000", "111")), "0:");
        check.same("chain of one empty row", Check.chainOf(Check.rows("000", "")), "0:");
    }

    private static void anchorsMayTouchButNotOverlap() {
        check.same("touching", Check.chainOf(Check.rows("0123", "0123")), "40: 0,0 2,2");
        check.same("overlapping", Check.chainOf(Check.rows("012", "012")), "20: 0,0");
        check.same("overlapping in row 1 alone", Check.chainOf(Check.rows("01312", "012")), "20: 0,0");
        check.same("overlapping in row 0 alone", Check.chainOf(Check.rows("012", "01312")), "20: 0,0");
        check.same("crossing", Check.chainOf(Check.rows("0123", "2301")), "20: 0,2");
    }

    private static void lettersOutsideCostNothing() {
        SeedChainer x = Check.rows("33330133332", "2222201");
        x.penalty(9);
        check.same("before and behind", Check.chainOf(x), "20: 4,5");
    }

    private static void firstOfEqualChains() {
        check.same("less j", Check.chainOf(Check.rows("01", "0101")), "20: 0,0");
        check.same("less i", Check.chainOf(Check.rows("0101", "01")), "20: 0,0");
        // 0,2 comes before 2,0, though its j is greater.
        check.same("less i before less j", Check.chainOf(Check.rows("0123", "2301")), "20: 0,2");
        SeedChainer x = Check.rows("0110", "010");
        x.seeds(1);
        x.penalty(0);
        check.same("the middle one with less i", Check.chainOf(x), "30: 0,0 1,1 3,2");
        SeedChainer y = Check.rows("010", "0110");
        y.seeds(1);
        check.same("the middle one with less j", Check.chainOf(y), "29: 0,0 1,1 2,3");
        // Nearer neighbours outweigh the order: 0,0 leaves a letter between, 1,0 does not.
        SeedChainer z = Check.rows("001", "01");
        z.seeds(1);
        check.same("the greater score before the order", Check.chainOf(z), "20: 1,0 2,1");
    }

    private static void beginningComesFirst() {
        SeedChainer x = Check.rows("0220", "03330");
        x.seeds(1);
        x.penalty(2);
        // The second anchor adds 10 and costs 5 letters of 2: the chain of one alone comes first.
        check.same("adds nothing", Check.chainOf(x), "10: 0,0");
        x.penalty(1);
        check.same("adds something", Check.chainOf(x), "15: 0,0 3,4");
        x.penalty(3);
        check.same("would cost more", Check.chainOf(x), "10: 0,0");
        // Alone 0,0 adds nothing to what comes later, yet a chain that begins with it comes first.
        SeedChainer y = Check.rows("02201", "033301");
        y.seeds(1);
        y.penalty(2);
        check.same("an early anchor that adds nothing", Check.chainOf(y), "20: 0,0 3,4 4,5");
    }

    private static void followChanges() {
        SeedChainer x = Check.rows("0123", "012");
        check.same("chain", Check.chainOf(x), "20: 0,0");
        x.put(1, 3);
        check.same("after put", Check.chainOf(x), "40: 0,0 2,2");
        x.put(1, 1);
        x.put(1, 4);
        check.same("after puts that add nothing", Check.chainOf(x), "40: 0,0 2,2");
        x.put(0, 1);
        x.seeds(5);
        check.same("after seeds(5)", Check.chainOf(x), "50: 0,0");
        x.cut(1);
        check.same("after cut", Check.chainOf(x), "0:");
        x.seeds(1);
        check.same("after seeds(1)", Check.chainOf(x), "40: 0,0 1,1 2,2 3,3");
        x.cut(0);
        x.cut(0);
        x.put(0, 1);
        check.same("after letters of row 0 changed", Check.chainOf(x), "30: 0,0 1,1 2,2");
        SeedChainer y = Check.rows("01233", "01023");
        y.chain();
        y.penalty(9);
        check.due("link(1, 1) first after penalty", y.link(1, 1), 3);
        check.due("chain() after penalty", y.chain(), 31);
        y.cut(1);
        check.due("links() first after cut", y.links(), 1);
    }

    private static void linkRefuses() {
        SeedChainer x = Check.rows("01233", "01023");
        for (int n : new int[] {-1, 2, 3, 47, 48, Integer.MIN_VALUE, Integer.MAX_VALUE}) {
            check.due("link(" + n + ", 0)", x.link(n, 0), -1);
            check.due("link(" + n + ", 1)", x.link(n, 1), -1);
        }
        for (int which : new int[] {-1, 2, 3, Integer.MIN_VALUE, Integer.MAX_VALUE}) {
            check.due("link(0, " + which + ")", x.link(0, which), -1);
        }
        check.due("link(1, 0)", x.link(1, 0), 2);
        check.due("link(1, 1)", x.link(1, 1), 3);
    }

    private static void most() {
        SeedChainer x = Check.rows("1".repeat(48), "1".repeat(48));
        for (int k = 1; k <= 6; k++) {
            x.seeds(k);
            check.due("chain() of full rows", x.chain(), 48 / k * 10 * k);
            check.due("links() of full rows", x.links(), 48 / k);
            check.due("the last link", x.link(48 / k - 1, 1), (48 / k - 1) * k);
            check.due("none behind it", x.link(48 / k, 0), -1);
        }
        SeedChainer y = Check.rows("0" + "1".repeat(46) + "0", "0" + "2".repeat(46) + "0");
        y.seeds(1);
        check.same("92 letters between", Check.chainOf(y), "10: 0,0");
        y.penalty(0);
        check.same("92 letters between for nothing", Check.chainOf(y), "20: 0,0 47,47");
    }
}

/** What the tests share: counting wrong answers, and filling rows from a text of digits. */
final class Check {
    private int wrong = 0;
    private int looked = 0;

    void due(String call, long got, long want) {
        looked++;
        if (got != want) {
            wrong++;
            System.out.println(call + " answered " + got + ", due is " + want);
        }
    }

    void due(String call, boolean got, boolean want) {
        due(call, got ? 1L : 0L, want ? 1L : 0L);
    }

    void end() {
        System.out.println(looked + " answers looked at, " + wrong + " not as due");
        if (wrong != 0 || looked == 0) {
            System.exit(1);
        }
    }

    static SeedChainer rows(String first, String second) {
        SeedChainer x = new SeedChainer();
        fill(x, 0, first);
        fill(x, 1, second);
        return x;
    }

    static void fill(SeedChainer x, int row, String letters) {
        for (int n = 0; n < letters.length(); n++) {
            x.put(row, letters.charAt(n) - '0');
        }
    }

    /** The best chain, its score first: "38: 0,0 2,2". */
    static String chainOf(SeedChainer x) {
        StringBuilder text = new StringBuilder().append(x.chain()).append(':');
        int links = x.links();
        for (int n = 0; n < links; n++) {
            text.append(' ').append(x.link(n, 0)).append(',').append(x.link(n, 1));
        }
        return text.toString();
    }

    static String anchorsOf(SeedChainer x) {
        StringBuilder text = new StringBuilder().append(x.anchors()).append(':');
        int anchors = x.anchors();
        for (int n = 0; n < anchors; n++) {
            text.append(' ').append(x.anchor(n, 0)).append(',').append(x.anchor(n, 1));
        }
        return text.toString();
    }

    /** The latest reach: "p q alive farthest". */
    static String reachedOf(SeedChainer x) {
        return x.reached(0) + " " + x.reached(1) + " " + x.reached(2) + " " + x.reached(3);
    }

    void same(String what, String got, String want) {
        looked++;
        if (!got.equals(want)) {
            wrong++;
            System.out.println(what + " gave \"" + got + "\", due is \"" + want + "\"");
        }
    }
}

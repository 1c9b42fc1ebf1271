/** What an object answers, as a text. */
final class Look {
    // So that a look at full rows stays within the 512 calls of an object.
    private static final int MOST_PAIRS = 60;

    private Look() {
    }

    /** All letters of a row, with what stands right before and behind them: "[-1 0 3 -1]". */
    static String letters(SeedChainer x, int row) {
        StringBuilder text = new StringBuilder().append('[').append(x.letter(row, -1));
        int letter = 0;
        for (int i = 0; i <= 48 && letter != SeedChainer.NONE; i++) {
            letter = x.letter(row, i);
            text.append(' ').append(letter);
        }
        return text.append(']').toString();
    }

    /** How many anchors there are, and the first ones: "2: 0,0 2,2". */
    static String anchors(SeedChainer x) {
        int count = x.anchors();
        StringBuilder text = new StringBuilder().append(count).append(':');
        for (int n = 0; n < count && n < MOST_PAIRS; n++) {
            text.append(' ').append(x.anchor(n, 0)).append(',').append(x.anchor(n, 1));
        }
        return text.toString();
    }

    /** The best chain, its score first: "38: 0,0 2,2". */
    static String chain(SeedChainer x) {
        StringBuilder text = new StringBuilder().append(x.chain()).append(':');
        int links = x.links();
        for (int n = 0; n < links; n++) {
            text.append(' ').append(x.link(n, 0)).append(',').append(x.link(n, 1));
        }
        return text.toString();
    }

    /** The latest reach: "p q alive farthest". */
    static String reached(SeedChainer x) {
        return x.reached(0) + " " + x.reached(1) + " " + x.reached(2) + " " + x.reached(3);
    }
}

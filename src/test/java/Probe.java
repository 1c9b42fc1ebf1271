/**
 * Ways to read an object as a text; two objects in the same state give the same text.
 * Each is used on an object of its own, which may change and stays below 512 calls.
 */
enum Probe {
    LETTERS, ROOM, LAST_LETTERS, ANCHORS, CHAIN, REACHED, K, PENALTY, SCORES;

    String read(SeedChainer x) {
        return switch (this) {
            case LETTERS -> Look.letters(x, 0) + " " + Look.letters(x, 1);
            case ROOM -> room(x, 0) + " " + room(x, 1);
            case LAST_LETTERS -> x.cut(0) + " " + x.cut(1) + " " + Look.chain(x);
            case ANCHORS -> Look.anchors(x);
            case CHAIN -> Look.chain(x);
            case REACHED -> Look.reached(x);
            case K -> k(x);
            case PENALTY -> penalty(x);
            case SCORES -> scores(x);
        };
    }

    private static String room(SeedChainer x, int row) {
        StringBuilder text = new StringBuilder();
        int size = 0;
        for (int n = 0; n < 50 && size != SeedChainer.NONE; n++) {
            size = x.put(row, 1);
            text.append(size).append(',');
        }
        return text.toString();
    }

    private static String k(SeedChainer x) {
        Rows.empty(x);
        Rows.fill(x, "0000000", "0000000");
        return "anchors " + x.anchors();
    }

    // Whatever K is, the best chain goes over the one letter that stands between the parts of row 1.
    private static String penalty(SeedChainer x) {
        Rows.empty(x);
        Rows.fill(x, "000000111111", "0000002111111");
        return "score " + x.chain();
    }

    private static String scores(SeedChainer x) {
        Rows.empty(x);
        Rows.fill(x, "01001101003333222111", "00010110103312");
        StringBuilder text = new StringBuilder();
        for (int[] place : new int[][] {{0, 0}, {1, 0}, {0, 1}, {3, 2}, {20, 0}, {0, 14}, {9, 9}, {16, 2}}) {
            text.append(x.reach(place[0], place[1])).append(" (").append(Look.reached(x)).append(") ");
        }
        return text.toString();
    }
}

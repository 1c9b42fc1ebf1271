/** Filling and emptying rows; letters stand as digits in a text. */
final class Rows {
    private Rows() {
    }

    static SeedChainer of(String first, String second) {
        SeedChainer x = new SeedChainer();
        fill(x, first, second);
        return x;
    }

    static SeedChainer of(String first, String second, int k, int penalty) {
        SeedChainer x = of(first, second);
        x.seeds(k);
        x.penalty(penalty);
        return x;
    }

    static void fill(SeedChainer x, String first, String second) {
        append(x, 0, first);
        append(x, 1, second);
    }

    static void append(SeedChainer x, int row, String letters) {
        for (int n = 0; n < letters.length(); n++) {
            x.put(row, letters.charAt(n) - '0');
        }
    }

    static void empty(SeedChainer x) {
        for (int row = 0; row < 2; row++) {
            for (int n = 0; n < 48 && x.letter(row, 0) != SeedChainer.NONE; n++) {
                x.cut(row);
            }
        }
    }
}

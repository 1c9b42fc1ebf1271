/** Arguments that are never such, next to the bounds and far off. */
final class Wrong {
    static final int[] ROWS = {-1, 2, 3, Integer.MIN_VALUE, Integer.MAX_VALUE};
    static final int[] LETTERS = {-1, 4, 5, 256, Integer.MIN_VALUE, Integer.MAX_VALUE};
    static final int[] WHICH = {-1, 2, 3, Integer.MIN_VALUE, Integer.MAX_VALUE};
    static final int[] WHAT = {-1, 4, 5, Integer.MIN_VALUE, Integer.MAX_VALUE};
    static final int[] FAR_OFF = {-49, -48, -2, 49, 50, 2304, 65536, Integer.MIN_VALUE, Integer.MIN_VALUE + 1,
        Integer.MAX_VALUE - 1, Integer.MAX_VALUE};

    private Wrong() {
    }
}

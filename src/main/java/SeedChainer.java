import java.util.Arrays;

/** Two rows of letters: their common seeds, the best chain of these, and how far a likeness reaches. */
public final class SeedChainer {
    public static final int NONE = -1;

    private static final int MOST_LETTERS = 48;
    private static final int LETTER_KINDS = 4;
    private static final int MOST_K = 6;
    private static final int ANCHOR_WORTH = 10;

    private final LetterRow row0;
    private final LetterRow row1;
    private final Seeds seedPairs;
    private final BestChain best;
    private final Reaching reaching;
    private int gapPenalty;
    // The search for the best chain is dear, so its outcome is kept until something it rests on changes.
    private boolean bestIsFresh;

    public SeedChainer() {
        row0 = new LetterRow();
        row1 = new LetterRow();
        seedPairs = new Seeds(row0, row1);
        best = new BestChain();
        reaching = new Reaching();
        gapPenalty = 1;
        bestIsFresh = false;
    }

    public int put(int row, int letter) {
        LetterRow target = rowOf(row);
        if (target == null || !isBetween(letter, 0, LETTER_KINDS - 1) || target.isFull()) {
            return NONE;
        }
        bestIsFresh = false;
        target.append(letter);
        return target.size();
    }

    public int cut(int row) {
        LetterRow target = rowOf(row);
        if (target == null || target.size() == 0) {
            return NONE;
        }
        bestIsFresh = false;
        return target.dropLast();
    }

    public int letter(int row, int i) {
        LetterRow target = rowOf(row);
        return target == null ? NONE : target.at(i);
    }

    public boolean seeds(int k) {
        if (!isBetween(k, 1, MOST_K)) {
            return false;
        }
        bestIsFresh = false;
        seedPairs.useLength(k);
        return true;
    }

    public boolean penalty(int g) {
        if (!isBetween(g, 0, 9)) {
            return false;
        }
        bestIsFresh = false;
        gapPenalty = g;
        return true;
    }

    public boolean scores(int gain, int loss, int gap, int limit) {
        if (!isBetween(gain, 1, 9) || !isBetween(loss, 0, 9)
                || !isBetween(gap, 1, 9) || !isBetween(limit, 0, 99)) {
            return false;
        }
        reaching.useScores(gain, loss, gap, limit);
        return true;
    }

    public int anchors() {
        return seedPairs.count();
    }

    public int anchor(int n, int which) {
        return placeOf(seedPairs.pairAt(n), which);
    }

    public int chain() {
        return freshBest().total();
    }

    public int links() {
        return freshBest().size();
    }

    public int link(int n, int which) {
        return placeOf(freshBest().pairAt(n), which);
    }

    public int reach(int i, int j) {
        if (!isBetween(i, 0, row0.size()) || !isBetween(j, 0, row1.size())) {
            return NONE;
        }
        reaching.walk(row0, i, row1, j);
        return reaching.endScore();
    }

    public int reached(int what) {
        return reaching.outcome(what);
    }

    private LetterRow rowOf(int row) {
        if (row == 0) {
            return row0;
        }
        return row == 1 ? row1 : null;
    }

    private BestChain freshBest() {
        if (!bestIsFresh) {
            best.find(seedPairs, gapPenalty);
            bestIsFresh = true;
        }
        return best;
    }

    private static boolean isBetween(int value, int least, int most) {
        return value >= least && value <= most;
    }

    // A pair of places is handed on as one number, so that no object has to be made for it.
    private static int pairOf(int i, int j) {
        return i * MOST_LETTERS + j;
    }

    private static int placeOf(int pair, int which) {
        if (pair == NONE || !isBetween(which, 0, 1)) {
            return NONE;
        }
        return which == 0 ? pair / MOST_LETTERS : pair % MOST_LETTERS;
    }

    private static final class LetterRow {
        private final int[] letters = new int[MOST_LETTERS];
        private int size = 0;

        int size() {
            return size;
        }

        boolean isFull() {
            return size == MOST_LETTERS;
        }

        void append(int letter) {
            if (!isFull()) {
                letters[size] = letter;
                size++;
            }
        }

        int dropLast() {
            if (size == 0) {
                return NONE;
            }
            size--;
            return letters[size];
        }

        int at(int i) {
            return i >= 0 && i < size ? letters[i] : NONE;
        }
    }

    /** The anchors of two rows, told from the rows anew each time. */
    private static final class Seeds {
        private final LetterRow first;
        private final LetterRow second;
        private int length = 2;

        Seeds(LetterRow first, LetterRow second) {
            this.first = first;
            this.second = second;
        }

        int length() {
            return length;
        }

        void useLength(int k) {
            length = k;
        }

        int firstSize() {
            return first.size();
        }

        int secondSize() {
            return second.size();
        }

        boolean isSeed(int i, int j) {
            if (i + length > first.size() || j + length > second.size()) {
                return false;
            }
            for (int s = 0; s < length; s++) {
                if (first.at(i + s) != second.at(j + s)) {
                    return false;
                }
            }
            return true;
        }

        int count() {
            int seen = 0;
            for (int i = 0; i < first.size(); i++) {
                for (int j = 0; j < second.size(); j++) {
                    if (isSeed(i, j)) {
                        seen++;
                    }
                }
            }
            return seen;
        }

        int pairAt(int n) {
            int seen = 0;
            for (int i = 0; i < first.size(); i++) {
                for (int j = 0; j < second.size(); j++) {
                    if (isSeed(i, j)) {
                        if (seen == n) {
                            return pairOf(i, j);
                        }
                        seen++;
                    }
                }
            }
            return NONE;
        }
    }

    private static final class BestChain {
        private static final int SIDE = MOST_LETTERS + 1;
        // Below what any chain can add, and far from wrapping around when penalties are taken off it.
        private static final int NOTHING = -1000000;

        // At (a, b): the most that a chain of at least one anchor adds when all its anchors stand at a, b
        // or behind and every letter from a and b up to its first anchor costs the penalty.
        private final int[] ahead = new int[SIDE * SIDE];
        private final int[] pairs = new int[MOST_LETTERS];
        private int size = 0;
        private int total = 0;

        int total() {
            return total;
        }

        int size() {
            return size;
        }

        int pairAt(int n) {
            return n >= 0 && n < size ? pairs[n] : NONE;
        }

        void find(Seeds seeds, int penalty) {
            lookAhead(seeds, penalty);
            size = 0;
            total = 0;
            int pair = firstPair(seeds);
            if (pair != NONE) {
                total = worthFrom(seeds, placeOf(pair, 0), placeOf(pair, 1));
            }
            while (pair != NONE && size < MOST_LETTERS) {
                pairs[size] = pair;
                size++;
                int a = placeOf(pair, 0) + seeds.length();
                int b = placeOf(pair, 1) + seeds.length();
                pair = nextPair(seeds, penalty, a, b);
            }
        }

        // From the ends of the rows backwards: what lies ahead of a cell rests on the cells behind it.
        private void lookAhead(Seeds seeds, int penalty) {
            for (int a = seeds.firstSize(); a >= 0; a--) {
                for (int b = seeds.secondSize(); b >= 0; b--) {
                    ahead[a * SIDE + b] = mostFrom(seeds, penalty, a, b);
                }
            }
        }

        private int mostFrom(Seeds seeds, int penalty, int a, int b) {
            if (a == seeds.firstSize() || b == seeds.secondSize()) {
                return NOTHING;
            }
            int most = Math.max(ahead[(a + 1) * SIDE + b], ahead[a * SIDE + b + 1]) - penalty;
            return seeds.isSeed(a, b) ? Math.max(most, worthFrom(seeds, a, b)) : most;
        }

        // The greatest score of the chains that begin with the anchor (i, j).
        private int worthFrom(Seeds seeds, int i, int j) {
            int k = seeds.length();
            return ANCHOR_WORTH * k + Math.max(0, ahead[(i + k) * SIDE + j + k]);
        }

        private int firstPair(Seeds seeds) {
            int found = NONE;
            int most = 0;
            for (int i = 0; i < seeds.firstSize(); i++) {
                for (int j = 0; j < seeds.secondSize(); j++) {
                    if (seeds.isSeed(i, j) && worthFrom(seeds, i, j) > most) {
                        found = pairOf(i, j);
                        most = worthFrom(seeds, i, j);
                    }
                }
            }
            return found;
        }

        private int nextPair(Seeds seeds, int penalty, int a, int b) {
            int due = ahead[a * SIDE + b];
            // A further anchor that adds nothing is left out: the beginning of a chain comes before the chain.
            if (due <= 0) {
                return NONE;
            }
            for (int i = a; i < seeds.firstSize(); i++) {
                for (int j = b; j < seeds.secondSize(); j++) {
                    int cost = penalty * (i - a + j - b);
                    if (seeds.isSeed(i, j) && worthFrom(seeds, i, j) - cost == due) {
                        return pairOf(i, j);
                    }
                }
            }
            return NONE;
        }
    }

    private static final class Reaching {
        // So low that a step from a dead cell stays below every limit.
        private static final int DEAD = -1000000;

        private int gain = 2;
        private int loss = 1;
        private int gap = 2;
        private int limit = 6;

        // The scores of three slopes, by p: a cell rests on the two slopes before its own and on no other.
        private int[] twoBefore = new int[MOST_LETTERS + 1];
        private int[] oneBefore = new int[MOST_LETTERS + 1];
        private int[] current = new int[MOST_LETTERS + 1];

        private int endScore = NONE;
        private int endP = NONE;
        private int endQ = NONE;
        private int aliveCells = NONE;
        private int lastSlope = NONE;

        void useScores(int newGain, int newLoss, int newGap, int newLimit) {
            gain = newGain;
            loss = newLoss;
            gap = newGap;
            limit = newLimit;
        }

        int endScore() {
            return endScore;
        }

        int outcome(int what) {
            switch (what) {
                case 0:
                    return endP;
                case 1:
                    return endQ;
                case 2:
                    return aliveCells;
                case 3:
                    return lastSlope;
                default:
                    return NONE;
            }
        }

        void walk(LetterRow first, int i, LetterRow second, int j) {
            begin();
            int most = first.size() - i + second.size() - j;
            // Behind two slopes without a living cell nothing can live.
            for (int d = 1; d <= most && d <= lastSlope + 2; d++) {
                turnSlopes();
                walkSlope(first, i, second, j, d);
            }
        }

        private void begin() {
            // The other slopes may keep what an earlier walk left: each is cleared or replaced before it is read.
            Arrays.fill(current, DEAD);
            current[0] = 0;
            endScore = 0;
            endP = 0;
            endQ = 0;
            aliveCells = 1;
            lastSlope = 0;
        }

        private void turnSlopes() {
            int[] free = twoBefore;
            twoBefore = oneBefore;
            oneBefore = current;
            current = free;
            Arrays.fill(current, DEAD);
        }

        private void walkSlope(LetterRow first, int i, LetterRow second, int j, int d) {
            // Taken before the slope is walked: cells of the same slope don't raise what their neighbours need.
            int least = endScore - limit;
            int mostP = Math.min(d, first.size() - i);
            for (int p = Math.max(0, d - (second.size() - j)); p <= mostP; p++) {
                int q = d - p;
                int score = gapScore(p);
                if (p > 0 && q > 0) {
                    boolean same = first.at(i + p - 1) == second.at(j + q - 1);
                    score = Math.max(score, twoBefore[p - 1] + (same ? gain : -loss));
                }
                if (score >= least) {
                    keepAlive(p, q, score);
                }
            }
        }

        private int gapScore(int p) {
            int before = oneBefore[p];
            if (p > 0) {
                before = Math.max(before, oneBefore[p - 1]);
            }
            return before - gap;
        }

        // Cells come by p + q and then by p, so only a greater score takes the end away from an earlier cell.
        private void keepAlive(int p, int q, int score) {
            current[p] = score;
            aliveCells++;
            lastSlope = p + q;
            if (score > endScore) {
                endScore = score;
                endP = p;
                endQ = q;
            }
        }
    }
}

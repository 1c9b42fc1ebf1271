import java.util.ArrayList;
import java.util.HashMap;
import java.util.List;
import java.util.Map;

/** Long runs of calls, each answer laid beside that of a model that follows the document's words one by one. */
public final class ModelTest {
    private static final Check check = new Check();
    private static long seed = 20261115L;

    // A row of numbers of our own, the same on each machine, so that a failure can be seen again.
    private static int below(int bound) {
        seed = seed * 6364136223846793005L + 1442695040888963407L;
        return (int) ((seed >>> 33) % bound);
    }

    public static void main(String[] args) {
        for (int n = 0; n < 400; n++) {
            int run = n;
            check.test("small rows, all chains, run " + run, () -> smallRowsAllChains(run));
        }
        for (int n = 0; n < 60; n++) {
            int run = n;
            check.test("512 calls of all kinds, run " + run, () -> mixedRun(run));
        }
        for (int n = 0; n < 8; n++) {
            int run = n;
            check.test("full rows, run " + run, () -> fullRows(run));
        }
        check.end();
    }

    private static String someLetters(int count, int kinds) {
        StringBuilder text = new StringBuilder();
        for (int n = 0; n < count; n++) {
            text.append((char) ('0' + below(kinds)));
        }
        return text.toString();
    }

    /** Every chain there is, put in the document's order. */
    private static void smallRowsAllChains(int run) {
        int kinds = 1 + below(4);
        Model m = new Model();
        m.rows[0].append(someLetters(below(7), kinds));
        m.rows[1].append(someLetters(below(7), kinds));
        m.k = 1 + below(3);
        m.g = below(10);
        SeedChainer x = Rows.of(m.rows[0].toString(), m.rows[1].toString());
        x.seeds(m.k);
        x.penalty(m.g);
        String name = "small run " + run + " (" + m.rows[0] + ", " + m.rows[1] + ", " + m.k + ", " + m.g + ")";
        List<int[]> best = m.bestOfAll(new ArrayList<>());
        check.same(name, Look.chain(x), m.text(best));
        check.same(name + " by the model's own quicker way", m.text(m.bestChain()), m.text(best));
        check.same(name + " anchors", Look.anchors(x), m.anchorText());
    }

    /** 512 calls of all kinds, right and wrong ones. */
    private static void mixedRun(int run) {
        Model m = new Model();
        SeedChainer x = new SeedChainer();
        int kinds = 2 + below(3);
        for (int call = 0; call < 512; call++) {
            oneCall("mixed run " + run + " call " + call, m, x, kinds);
        }
    }

    private static void oneCall(String name, Model m, SeedChainer x, int kinds) {
        int row = below(20) == 0 ? below(5) - 2 : below(2);
        switch (below(17)) {
            case 0, 1, 2, 3, 4 -> {
                int letter = below(20) == 0 ? below(8) - 2 : below(kinds);
                check.due(name + " put", x.put(row, letter), m.put(row, letter));
            }
            case 5 -> check.due(name + " cut", x.cut(row), m.cut(row));
            case 6 -> {
                int i = below(52) - 2;
                check.due(name + " letter", x.letter(row, i), m.letter(row, i));
            }
            case 7 -> {
                int k = below(9) - 1;
                boolean fine = k >= 1 && k <= 6;
                m.k = fine ? k : m.k;
                check.due(name + " seeds", x.seeds(k), fine);
            }
            case 8 -> {
                int g = below(14) - 2;
                boolean fine = g >= 0 && g <= 9;
                m.g = fine ? g : m.g;
                check.due(name + " penalty", x.penalty(g), fine);
            }
            case 9 -> {
                int[] s = {below(12) - 1, below(13) - 1, below(12) - 1, below(4) == 0 ? below(104) - 2 : below(20)};
                check.due(name + " scores", x.scores(s[0], s[1], s[2], s[3]), m.scores(s));
            }
            case 10 -> check.due(name + " anchors", x.anchors(), m.anchors().size());
            case 16 -> {
                int n = below(m.anchors().size() + 3) - 1;
                int which = below(4) - 1;
                check.due(name + " anchor", x.anchor(n, which), m.place(m.anchors(), n, which));
            }
            case 11 -> check.due(name + " chain", x.chain(), m.score(m.bestChain()));
            case 12 -> check.due(name + " links", x.links(), m.bestChain().size());
            case 13 -> {
                List<int[]> best = m.bestChain();
                int n = below(best.size() + 3) - 1;
                int which = below(4) - 1;
                check.due(name + " link", x.link(n, which), m.place(best, n, which));
            }
            case 14 -> {
                int i = below(m.rows[0].length() + 3) - 1;
                int j = below(m.rows[1].length() + 3) - 1;
                check.due(name + " reach", x.reach(i, j), m.reach(i, j));
            }
            default -> {
                int what = below(7) - 1;
                int want = m.reached == null || what < 0 || what > 3 ? -1 : m.reached[what];
                check.due(name + " reached", x.reached(what), want);
            }
        }
    }

    private static void fullRows(int run) {
        Model m = new Model();
        int kinds = 1 + run % 4;
        m.rows[0].append(someLetters(48, kinds));
        m.rows[1].append(someLetters(48, kinds));
        SeedChainer x = Rows.of(m.rows[0].toString(), m.rows[1].toString());
        for (int k = 1; k <= 6; k++) {
            m.k = k;
            m.g = below(10);
            x.seeds(m.k);
            x.penalty(m.g);
            check.same("full run " + run + " K " + k, Look.chain(x), m.text(m.bestChain()));
            int[] s = {1 + below(9), below(10), 1 + below(9), below(100)};
            check.due("full run scores", x.scores(s[0], s[1], s[2], s[3]), m.scores(s));
            int i = below(10);
            int j = below(10);
            check.due("full run " + run + " reach", x.reach(i, j), m.reach(i, j));
            String want = m.reached[0] + " " + m.reached[1] + " " + m.reached[2] + " " + m.reached[3];
            check.same("full run " + run + " reached", Look.reached(x), want);
        }
    }

    private static final class Model {
        final StringBuilder[] rows = {new StringBuilder(), new StringBuilder()};
        int k = 2;
        int g = 1;
        int[] s = {2, 1, 2, 6};
        int[] reached = null;

        boolean noRow(int row) {
            return row != 0 && row != 1;
        }

        int put(int row, int letter) {
            if (noRow(row) || letter < 0 || letter > 3 || rows[row].length() >= 48) {
                return -1;
            }
            rows[row].append((char) ('0' + letter));
            return rows[row].length();
        }

        int cut(int row) {
            if (noRow(row) || rows[row].length() == 0) {
                return -1;
            }
            int last = rows[row].charAt(rows[row].length() - 1) - '0';
            rows[row].setLength(rows[row].length() - 1);
            return last;
        }

        int letter(int row, int i) {
            return noRow(row) || i < 0 || i >= rows[row].length() ? -1 : rows[row].charAt(i) - '0';
        }

        boolean scores(int[] to) {
            boolean fine = to[0] >= 1 && to[0] <= 9 && to[1] >= 0 && to[1] <= 9
                    && to[2] >= 1 && to[2] <= 9 && to[3] >= 0 && to[3] <= 99;
            s = fine ? to : s;
            return fine;
        }

        List<int[]> anchors() {
            List<int[]> found = new ArrayList<>();
            for (int i = 0; i + k <= rows[0].length(); i++) {
                for (int j = 0; j + k <= rows[1].length(); j++) {
                    if (rows[0].substring(i, i + k).equals(rows[1].substring(j, j + k))) {
                        found.add(new int[] {i, j});
                    }
                }
            }
            return found;
        }

        int place(List<int[]> pairs, int n, int which) {
            return n < 0 || n >= pairs.size() || which < 0 || which > 1 ? -1 : pairs.get(n)[which];
        }

        boolean follows(int[] a, int[] b) {
            return b[0] >= a[0] + k && b[1] >= a[1] + k;
        }

        int between(int[] a, int[] b) {
            return b[0] - a[0] - k + b[1] - a[1] - k;
        }

        int score(List<int[]> chain) {
            int sum = 0;
            for (int n = 0; n < chain.size(); n++) {
                sum += 10 * k - (n == 0 ? 0 : g * between(chain.get(n - 1), chain.get(n)));
            }
            return sum;
        }

        boolean comesBefore(List<int[]> a, List<int[]> b) {
            for (int n = 0; n < a.size() && n < b.size(); n++) {
                int[] x = a.get(n);
                int[] y = b.get(n);
                if (x[0] != y[0]) {
                    return x[0] < y[0];
                }
                if (x[1] != y[1]) {
                    return x[1] < y[1];
                }
            }
            return a.size() < b.size();
        }

        boolean better(List<int[]> a, List<int[]> b) {
            return score(a) != score(b) ? score(a) > score(b) : comesBefore(a, b);
        }

        List<int[]> bestOfAll(List<int[]> begun) {
            List<int[]> best = begun;
            for (int[] next : anchors()) {
                if (begun.isEmpty() || follows(begun.get(begun.size() - 1), next)) {
                    List<int[]> longer = new ArrayList<>(begun);
                    longer.add(next);
                    List<int[]> other = bestOfAll(longer);
                    if (better(other, best)) {
                        best = other;
                    }
                }
            }
            return best;
        }

        /** Pair by pair: for each anchor the best chain that begins with it, from the last anchor on backwards. */
        List<int[]> bestChain() {
            List<int[]> all = anchors();
            int count = all.size();
            int[] worth = new int[count];
            int[] next = new int[count];
            for (int a = count - 1; a >= 0; a--) {
                worth[a] = 10 * k;
                next[a] = -1;
                for (int b = a + 1; b < count; b++) {
                    if (follows(all.get(a), all.get(b))) {
                        int sum = 10 * k - g * between(all.get(a), all.get(b)) + worth[b];
                        if (sum > worth[a]) {
                            worth[a] = sum;
                            next[a] = b;
                        }
                    }
                }
            }
            int first = -1;
            for (int a = 0; a < count; a++) {
                if (first < 0 || worth[a] > worth[first]) {
                    first = a;
                }
            }
            List<int[]> chain = new ArrayList<>();
            for (int a = first; a >= 0; a = next[a]) {
                chain.add(all.get(a));
            }
            return chain;
        }

        String text(List<int[]> chain) {
            StringBuilder text = new StringBuilder().append(score(chain)).append(':');
            chain.forEach(a -> text.append(' ').append(a[0]).append(',').append(a[1]));
            return text.toString();
        }

        String anchorText() {
            StringBuilder text = new StringBuilder().append(anchors().size()).append(':');
            anchors().forEach(a -> text.append(' ').append(a[0]).append(',').append(a[1]));
            return text.toString();
        }

        int reach(int i, int j) {
            if (i < 0 || j < 0 || i > rows[0].length() || j > rows[1].length()) {
                return -1;
            }
            String first = rows[0].substring(i);
            String second = rows[1].substring(j);
            Map<String, Integer> alive = new HashMap<>();
            alive.put("0 0", 0);
            int greatestBefore = 0;
            int farthest = 0;
            for (int d = 1; d <= first.length() + second.length(); d++) {
                int greatest = greatestBefore;
                for (int p = 0; p <= first.length(); p++) {
                    int q = d - p;
                    Integer score = q < 0 || q > second.length() ? null : cell(alive, first, second, p, q);
                    if (score != null && score >= greatestBefore - s[3]) {
                        alive.put(p + " " + q, score);
                        greatest = Math.max(greatest, score);
                        farthest = d;
                    }
                }
                greatestBefore = greatest;
            }
            return end(alive, first.length(), second.length(), greatestBefore, farthest);
        }

        Integer cell(Map<String, Integer> alive, String first, String second, int p, int q) {
            Integer most = null;
            Integer both = alive.get((p - 1) + " " + (q - 1));
            if (both != null) {
                most = both + (first.charAt(p - 1) == second.charAt(q - 1) ? s[0] : -s[1]);
            }
            for (String before : new String[] {(p - 1) + " " + q, p + " " + (q - 1)}) {
                Integer one = alive.get(before);
                if (one != null && (most == null || one - s[2] > most)) {
                    most = one - s[2];
                }
            }
            return most;
        }

        int end(Map<String, Integer> alive, int ps, int qs, int greatest, int farthest) {
            for (int d = 0; d <= ps + qs; d++) {
                for (int p = 0; p <= d; p++) {
                    Integer score = alive.get(p + " " + (d - p));
                    if (score != null && score == greatest) {
                        reached = new int[] {p, d - p, alive.size(), farthest};
                        return greatest;
                    }
                }
            }
            return -1;
        }
    }
}

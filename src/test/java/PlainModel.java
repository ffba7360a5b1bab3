import java.util.ArrayList;
import java.util.List;
import java.util.TreeSet;

/**
 * The document told once more, without any care for speed: all patterns, all orders, all lefts. Its
 * calls throw what is due.
 */
final class PlainModel {
    private int width = 10_000;
    private int kilos = 10_000;
    private int trim = 50;
    private int kerf = 0;
    private int knives = 20;
    private final List<Integer> widths = new ArrayList<>();
    private final List<Integer> still = new ArrayList<>();
    private final List<int[]> defects = new ArrayList<>();
    private final List<Cut> cuts = new ArrayList<>();

    private static final class Cut {
        int width;
        int kilos;
        int trim;
        int left;
        final List<Integer> numbers = new ArrayList<>();
        final List<int[]> stretches = new ArrayList<>();

        TreeSet<Integer> places() {
            TreeSet<Integer> places = new TreeSet<>();
            for (int[] s : stretches) {
                places.add(left + s[0]);
                places.add(left + s[1]);
            }
            return places;
        }

        int weight(int k) {
            long a = left + stretches.get(k)[0];
            long b = left + stretches.get(k)[1];
            return (int) (kilos * b / width - kilos * a / width);
        }
    }

    int wantedCount() {
        return widths.size();
    }

    int cutCount() {
        return cuts.size();
    }

    void coil(int width, int kilos, int trim, int kerf, int knives) {
        if (width < 1 || width > 20_000 || kilos < 1 || kilos > 50_000 || trim < 0 || trim > 1000
                || kerf < 0 || kerf > 100 || knives < 2 || knives > 40) {
            throw new IllegalArgumentException();
        }
        this.width = width;
        this.kilos = kilos;
        this.trim = trim;
        this.kerf = kerf;
        this.knives = knives;
    }

    int want(int width, int strips) {
        if (widths.size() == 5) {
            throw new IllegalStateException();
        }
        if (width < 1 || width > 20_000 || strips < 0 || strips > 6) {
            throw new IllegalArgumentException();
        }
        widths.add(width);
        still.add(strips);
        return widths.size() - 1;
    }

    void strips(int wanted, int strips) {
        index(wanted, widths.size());
        if (strips < 0 || strips > 6) {
            throw new IllegalArgumentException();
        }
        still.set(wanted, strips);
    }

    /** Null when there is no pattern. */
    private int[] bestPattern() {
        int[] best = null;
        int[] counts = new int[5];
        int all = 7 * 7 * 7 * 7 * 7;
        for (int code = 0; code < all; code++) {
            int rest = code;
            for (int i = 0; i < 5; i++) {
                counts[i] = rest % 7;
                rest /= 7;
            }
            if (isPattern(counts) && (best == null || better(counts, best))) {
                best = counts.clone();
            }
        }
        return best;
    }

    private boolean isPattern(int[] counts) {
        for (int i = 0; i < 5; i++) {
            if (counts[i] > (i < still.size() ? still.get(i) : 0)) {
                return false;
            }
        }
        int n = stripsOf(counts);
        return n >= 1 && n + 1 <= knives && fillOf(counts) <= width - 2 * trim;
    }

    private static int stripsOf(int[] counts) {
        int n = 0;
        for (int c : counts) {
            n += c;
        }
        return n;
    }

    private int fillOf(int[] counts) {
        int fill = (stripsOf(counts) - 1) * kerf;
        for (int i = 0; i < widths.size(); i++) {
            fill += counts[i] * widths.get(i);
        }
        return fill;
    }

    private boolean better(int[] a, int[] b) {
        if (fillOf(a) != fillOf(b)) {
            return fillOf(a) > fillOf(b);
        }
        if (stripsOf(a) != stripsOf(b)) {
            return stripsOf(a) < stripsOf(b);
        }
        for (int i = 0; i < 5; i++) {
            if (a[i] != b[i]) {
                return a[i] > b[i];
            }
        }
        return false;
    }

    int fill() {
        int[] best = bestPattern();
        return best == null ? 0 : fillOf(best);
    }

    int best(int wanted) {
        index(wanted, widths.size());
        int[] best = bestPattern();
        return best == null ? 0 : best[wanted];
    }

    int cut() {
        if (cuts.size() == 9) {
            throw new IllegalStateException();
        }
        int[] best = bestPattern();
        if (best == null) {
            throw new UnsupportedOperationException();
        }
        Cut cut = new Cut();
        cut.width = width;
        cut.kilos = kilos;
        cut.trim = trim;
        cut.left = trim;
        int at = 0;
        for (int i = 0; i < widths.size(); i++) {
            for (int n = 0; n < best[i]; n++) {
                cut.numbers.add(i);
                cut.stretches.add(new int[] {at, at + widths.get(i)});
                at += widths.get(i) + kerf;
            }
            still.set(i, still.get(i) - best[i]);
        }
        cuts.add(cut);
        return cuts.size() - 1;
    }

    int strip(int setup, int k, int what) {
        index(setup, cuts.size());
        index(what, 4);
        index(k, Integer.MAX_VALUE);
        Cut cut = cuts.get(setup);
        if (k >= cut.numbers.size()) {
            return -1;
        }
        return switch (what) {
            case 0 -> cut.numbers.get(k);
            case 1 -> cut.left + cut.stretches.get(k)[0];
            case 2 -> cut.left + cut.stretches.get(k)[1];
            default -> cut.weight(k);
        };
    }

    int scrap(int setup) {
        index(setup, cuts.size());
        Cut cut = cuts.get(setup);
        int scrap = cut.kilos;
        for (int k = 0; k < cut.numbers.size(); k++) {
            scrap -= cut.weight(k);
        }
        return scrap;
    }

    int moves(int from, int to) {
        index(from, cuts.size());
        index(to, cuts.size());
        TreeSet<Integer> missing = cuts.get(to).places();
        missing.removeAll(cuts.get(from).places());
        return missing.size();
    }

    int order() {
        return bestOrder()[cuts.size()];
    }

    int ordered(int i) {
        index(i, Integer.MAX_VALUE);
        return i >= cuts.size() ? -1 : bestOrder()[i];
    }

    /** All orders one by one, the first by numbers first; the sum of moves stands behind it. */
    private int[] bestOrder() {
        int n = cuts.size();
        int[][] moves = new int[n][n];
        for (int a = 0; a < n; a++) {
            for (int b = 0; b < n; b++) {
                moves[a][b] = moves(a, b);
            }
        }
        int[] best = new int[n + 1];
        best[n] = n == 0 ? 0 : Integer.MAX_VALUE;
        tryOrders(moves, new int[n], 0, 0, best);
        return best;
    }

    private void tryOrders(int[][] moves, int[] order, int depth, int sum, int[] best) {
        int n = order.length;
        if (sum >= best[n]) {
            return;
        }
        if (depth == n) {
            System.arraycopy(order, 0, best, 0, n);
            best[n] = sum;
            return;
        }
        for (int next = 0; next < n; next++) {
            boolean used = false;
            for (int i = 0; i < depth; i++) {
                used |= order[i] == next;
            }
            if (!used) {
                order[depth] = next;
                int step = depth == 0 ? 0 : moves[order[depth - 1]][next];
                tryOrders(moves, order, depth + 1, sum + step, best);
            }
        }
    }

    int defect(int from, int to) {
        if (defects.size() == 10) {
            throw new IllegalStateException();
        }
        if (from < 0 || from > 20_000 || to < 0 || to > 20_000 || to <= from) {
            throw new IllegalArgumentException();
        }
        defects.add(new int[] {from, to});
        return defects.size();
    }

    void sound() {
        defects.clear();
    }

    int shift(int setup) {
        index(setup, cuts.size());
        Cut cut = cuts.get(setup);
        int end = cut.stretches.get(cut.stretches.size() - 1)[1];
        for (int left = cut.trim; left + end <= cut.width - cut.trim; left++) {
            if (isSound(cut, left)) {
                cut.left = left;
                return left;
            }
        }
        throw new UnsupportedOperationException();
    }

    private boolean isSound(Cut cut, int left) {
        for (int[] s : cut.stretches) {
            for (int[] d : defects) {
                if (Math.max(left + s[0], d[0]) < Math.min(left + s[1], d[1])) {
                    return false;
                }
            }
        }
        return true;
    }

    private static void index(int i, int count) {
        if (i < 0 || i >= count) {
            throw new IndexOutOfBoundsException();
        }
    }
}

import java.math.BigDecimal;
import java.math.BigInteger;
import java.math.MathContext;
import java.util.ArrayDeque;
import java.util.ArrayList;
import java.util.Arrays;
import java.util.Collections;
import java.util.HashSet;
import java.util.List;
import java.util.Set;
import java.util.TreeMap;
import java.util.TreeSet;

/**
 * The document once more, told as plainly as it can be and by other means than the program's: roots are
 * decimals with 60 digits, lines are lists, and what is counted is gathered in sets.
 */
final class PlainBench {
    private static final long NOWHERE = -9000000000000000000L;
    private static final long REACH = 1L << 29;

    /** A NUMBER: a + b times the square root of ROOT. */
    record Num(long a, long b) {
        Num plus(Num other) {
            return new Num(a + other.a, b + other.b);
        }

        Num minus(Num other) {
            return new Num(a - other.a, b - other.b);
        }

        boolean isInReach(long most) {
            return a >= -most && a <= most && b >= -most && b <= most;
        }
    }

    private static final Num ZERO = new Num(0, 0);

    private int root = 0;
    private BigDecimal rootValue = BigDecimal.ZERO;
    private Num[] sheetLengths = emptyLengths();
    private List<Integer> sheetOrder = null;

    private List<Integer> above = null;
    private List<Integer> below = null;
    private Num[] lengths;
    private BigInteger[][] table;
    private int stepsDone;
    private int stepsOfU;
    private Num spot = null;
    private List<int[]> told = new ArrayList<>();

    private static Num[] emptyLengths() {
        Num[] all = new Num[8];
        Arrays.fill(all, ZERO);
        return all;
    }

    boolean root(int r) {
        if (!Set.of(0, 2, 3, 5, 7).contains(r)) {
            return false;
        }
        root = r;
        rootValue = BigDecimal.valueOf(r).sqrt(new MathContext(60));
        sheetLengths = emptyLengths();
        sheetOrder = null;
        above = null;
        spot = null;
        return true;
    }

    private BigDecimal value(Num x) {
        return BigDecimal.valueOf(x.a).add(BigDecimal.valueOf(x.b).multiply(rootValue));
    }

    private int compare(Num x, Num y) {
        return x.equals(y) ? 0 : value(x).compareTo(value(y));
    }

    private boolean canBe(int a, int b, long most) {
        return new Num(a, b).isInReach(most) && (root != 0 || b == 0);
    }

    boolean length(int k, int a, int b) {
        if (k < 0 || k > 7 || !canBe(a, b, 16384) || compare(new Num(a, b), ZERO) <= 0) {
            return false;
        }
        sheetLengths[k] = new Num(a, b);
        return true;
    }

    boolean below(int n, int order) {
        if (n < 2 || n > 8) {
            return false;
        }
        List<Integer> told = new ArrayList<>();
        for (int j = 0; j < n; j++) {
            told.add(Character.digit(String.format("%08x", order).charAt(7 - j), 16));
        }
        List<Integer> sorted = new ArrayList<>(told);
        Collections.sort(sorted);
        if (!sorted.equals(upTo(n))) {
            return false;
        }
        sheetOrder = told;
        return true;
    }

    private static List<Integer> upTo(int n) {
        List<Integer> all = new ArrayList<>();
        for (int k = 0; k < n; k++) {
            all.add(k);
        }
        return all;
    }

    int lay() {
        if (sheetOrder == null) {
            return -1;
        }
        int n = sheetOrder.size();
        if (Arrays.asList(sheetLengths).subList(0, n).contains(ZERO)) {
            return -2;
        }
        above = upTo(n);
        below = new ArrayList<>(sheetOrder);
        lengths = Arrays.copyOf(sheetLengths, n);
        table = new BigInteger[n][n];
        for (int i = 0; i < n; i++) {
            Arrays.fill(table[i], BigInteger.ZERO);
            table[i][i] = BigInteger.ONE;
        }
        stepsDone = 0;
        stepsOfU = 0;
        spot = null;
        return n;
    }

    private int n() {
        return above == null ? 0 : above.size();
    }

    private Num total() {
        Num sum = ZERO;
        for (Num length : lengths) {
            sum = sum.plus(length);
        }
        return sum;
    }

    int of(int what) {
        if (above == null || what < 0 || what > 3) {
            return -1;
        }
        return what == 0 ? n() : what == 1 ? stepsDone : what == 2 ? parted() : stepsOfU;
    }

    private int parted() {
        for (int j = 1; j < n(); j++) {
            if (new HashSet<>(above.subList(0, j)).equals(new HashSet<>(below.subList(0, j)))) {
                return j;
            }
        }
        return 0;
    }

    long spans(int k, int what) {
        if (above == null || k < 0 || k > n() || what < 0 || what > 1) {
            return 0;
        }
        Num x = k == n() ? total() : lengths[k];
        return what == 0 ? x.a : x.b;
    }

    int order(int where, int j) {
        if (above == null || where < 0 || where > 1 || j < 0 || j >= n()) {
            return -1;
        }
        return (where == 0 ? above : below).get(j);
    }

    private Num leftEnd(List<Integer> line, int span) {
        Num sum = ZERO;
        for (int k : line) {
            if (k == span) {
                break;
            }
            sum = sum.plus(lengths[k]);
        }
        return sum;
    }

    private int spanIn(List<Integer> line, Num x) {
        for (int k : line) {
            Num left = leftEnd(line, k);
            if (compare(x, left) >= 0 && compare(x, left.plus(lengths[k])) < 0) {
                return k;
            }
        }
        return -1;
    }

    private Num moved(Num x) {
        int span = spanIn(above, x);
        return x.minus(leftEnd(above, span)).plus(leftEnd(below, span));
    }

    private Num movedBack(Num x) {
        int span = spanIn(below, x);
        return x.minus(leftEnd(below, span)).plus(leftEnd(above, span));
    }

    int point(int a, int b) {
        if (above == null || !canBe(a, b, REACH)) {
            return -1;
        }
        Num x = new Num(a, b);
        if (spanIn(above, x) < 0) {
            return -1;
        }
        spot = x;
        return spanIn(above, x);
    }

    int move(int n) {
        if (spot == null || n < -1000 || n > 1000) {
            return -1;
        }
        Num x = spot;
        for (int i = 0; i < Math.abs(n); i++) {
            x = n < 0 ? movedBack(x) : moved(x);
            if (!x.isInReach(REACH)) {
                return -1;
            }
        }
        spot = x;
        return spanIn(above, x);
    }

    long where(int what) {
        if (spot == null || what < 0 || what > 1) {
            return NOWHERE;
        }
        return what == 0 ? spot.a : spot.b;
    }

    int back(int a, int b) {
        if (spot == null || !canBe(a, b, REACH) || compare(new Num(a, b), ZERO) <= 0) {
            return -1;
        }
        Num x = spot;
        for (int i = 1; i <= 1000; i++) {
            x = moved(x);
            if (!x.isInReach(REACH)) {
                return -2;
            }
            if (compare(x, new Num(a, b)) < 0) {
                spot = x;
                return i;
            }
        }
        return -2;
    }

    int visits(int k, int n) {
        if (spot == null || k < 0 || k >= n() || n < 1 || n > 1000) {
            return -1;
        }
        List<Num> places = new ArrayList<>(List.of(spot));
        while (places.size() < n) {
            Num x = moved(places.get(places.size() - 1));
            if (!x.isInReach(REACH)) {
                return -1;
            }
            places.add(x);
        }
        int times = 0;
        for (Num x : places) {
            times += spanIn(above, x) == k ? 1 : 0;
        }
        return times;
    }

    int step() {
        if (above == null) {
            return -1;
        }
        int u = above.get(n() - 1);
        int v = below.get(n() - 1);
        if (u == v) {
            return -2;
        }
        int longer = compare(lengths[u], lengths[v]);
        if (longer == 0) {
            return -3;
        }
        int winner = longer > 0 ? u : v;
        int loser = longer > 0 ? v : u;
        Num rest = lengths[winner].minus(lengths[loser]);
        BigInteger[][] next = new BigInteger[n()][];
        for (int i = 0; i < n(); i++) {
            next[i] = table[i].clone();
            next[i][loser] = next[i][loser].add(next[i][winner]);
            if (next[i][loser].compareTo(BigInteger.TWO.pow(40)) > 0) {
                return -4;
            }
        }
        if (!rest.isInReach(16384)) {
            return -4;
        }
        table = next;
        lengths[winner] = rest;
        List<Integer> line = longer > 0 ? below : above;
        line.remove(line.size() - 1);
        line.add(line.indexOf(winner) + 1, loser);
        stepsDone++;
        stepsOfU += longer > 0 ? 1 : 0;
        if (spot != null && compare(spot, total()) >= 0) {
            spot = null;
        }
        return longer > 0 ? 1 : 0;
    }

    int steps(int n) {
        if (above == null || n < 1 || n > 1000) {
            return -1;
        }
        for (int i = 0; i < n; i++) {
            if (step() < 0) {
                return i;
            }
        }
        return n;
    }

    long table(int i, int j) {
        if (above == null || i < 0 || i >= n() || j < 0 || j >= n()) {
            return -1;
        }
        return table[i][j].longValueExact();
    }

    int loop() {
        if (above == null) {
            return -1;
        }
        PlainBench trial = new PlainBench();
        trial.root(root);
        trial.above = new ArrayList<>(above);
        trial.below = new ArrayList<>(below);
        trial.lengths = lengths.clone();
        trial.table = table;
        for (int m = 1; m <= 300; m++) {
            if (trial.step() < 0) {
                return 0;
            }
            if (trial.above.equals(above) && trial.below.equals(below) && sharesAreAlike(trial.lengths)) {
                return m;
            }
        }
        return 0;
    }

    private boolean sharesAreAlike(Num[] others) {
        for (int i = 0; i < n(); i++) {
            for (int k = 0; k < n(); k++) {
                if (!product(lengths[i], others[k]).equals(product(lengths[k], others[i]))) {
                    return false;
                }
            }
        }
        return true;
    }

    private Num product(Num x, Num y) {
        return new Num(x.a * y.a + root * x.b * y.b, x.a * y.b + x.b * y.a);
    }

    int rounds() {
        if (above == null) {
            return -1;
        }
        if (root != 0 || total().a > 2000) {
            return -2;
        }
        int total = (int) total().a;
        int[] to = new int[total];
        int[] span = new int[total];
        for (int p = 0; p < total; p++) {
            to[p] = (int) moved(new Num(p, 0)).a;
            span[p] = spanIn(above, new Num(p, 0));
        }
        String[] row = new String[total];
        for (int p = 0; p < total; p++) {
            row[p] = rowOf(p, to, span);
        }
        told = new ArrayList<>(roundsByLeastPiece(to, row).values());
        return told.size();
    }

    private static String rowOf(int p, int[] to, int[] span) {
        StringBuilder row = new StringBuilder();
        int q = p;
        do {
            row.append(span[q]);
            q = to[q];
        } while (q != p);
        return row.toString();
    }

    private static TreeMap<Integer, int[]> roundsByLeastPiece(int[] to, String[] row) {
        TreeMap<Integer, int[]> all = new TreeMap<>();
        int left = 0;
        while (left < row.length) {
            int right = left + 1;
            while (right < row.length && row[right].equals(row[left])) {
                right++;
            }
            TreeSet<Integer> pieces = new TreeSet<>();
            for (int p = left; p < right; p++) {
                for (int q = p; pieces.add(q); q = to[q]) {
                    continue;
                }
            }
            all.put(pieces.first(), new int[] {right - left, row[left].length(), pieces.first()});
            left = right;
        }
        return all;
    }

    int round(int k, int what) {
        if (k < 0 || k >= told.size() || what < 0 || what > 2) {
            return -1;
        }
        return told.get(k)[what];
    }

    int words(int m) {
        if (above == null) {
            return -1;
        }
        if (m < 1 || m > 10) {
            return -2;
        }
        Set<Num> starts = new HashSet<>();
        for (int k : above) {
            Num x = leftEnd(above, k);
            for (int t = 0; t < m; t++) {
                starts.add(x);
                x = movedBack(x);
            }
        }
        // Points between: they may bring no word that is not there already.
        for (int i = 0; i < 40; i++) {
            Num x = new Num(Math.floorDiv(total().a * i, 40), Math.floorDiv(total().b * i, 40));
            if (spanIn(above, x) >= 0) {
                starts.add(x);
            }
        }
        Set<String> words = new HashSet<>();
        for (Num start : starts) {
            StringBuilder word = new StringBuilder();
            Num x = start;
            for (int t = 0; t < m; t++) {
                word.append(spanIn(above, x));
                x = moved(x);
            }
            words.add(word.toString());
        }
        return words.size();
    }

    int classes() {
        if (above == null) {
            return -1;
        }
        if (n() > 6) {
            return -2;
        }
        Set<String> met = new HashSet<>();
        ArrayDeque<List<List<Integer>>> waiting = new ArrayDeque<>();
        waiting.add(List.of(above, below));
        met.add(namedAnew(above, below));
        while (!waiting.isEmpty()) {
            List<List<Integer>> pair = waiting.remove();
            for (int winning = 0; winning < 2; winning++) {
                List<Integer> a = new ArrayList<>(pair.get(0));
                List<Integer> b = new ArrayList<>(pair.get(1));
                int u = a.get(n() - 1);
                int v = b.get(n() - 1);
                if (u != v) {
                    List<Integer> line = winning == 0 ? b : a;
                    int loser = line.remove(n() - 1);
                    line.add(line.indexOf(winning == 0 ? u : v) + 1, loser);
                    if (met.add(namedAnew(a, b))) {
                        waiting.add(List.of(a, b));
                    }
                }
            }
        }
        return met.size();
    }

    private static String namedAnew(List<Integer> above, List<Integer> below) {
        StringBuilder names = new StringBuilder();
        for (int k : below) {
            names.append(above.indexOf(k));
        }
        return names.toString();
    }

    int ground(int what) {
        if (above == null || what < 0 || what > 3) {
            return -1;
        }
        int n = n();
        List<Set<String>> points = new ArrayList<>();
        for (int i = 0; i <= n; i++) {
            points.add(new HashSet<>(Set.of(corner("above", i))));
            points.add(new HashSet<>(Set.of(corner("below", i))));
        }
        for (int k = 0; k < n; k++) {
            for (int end = 0; end < 2; end++) {
                points.add(new HashSet<>(List.of(
                        corner("above", above.indexOf(k) + end), corner("below", below.indexOf(k) + end))));
            }
        }
        merge(points);
        int most = 0;
        int justOne = 0;
        for (Set<String> point : points) {
            int turns = 0;
            for (String corner : point) {
                turns += corner.startsWith("above") ? 1 : 0;
            }
            most = Math.max(most, turns);
            justOne += turns == 1 ? 1 : 0;
        }
        int[] all = {points.size(), (1 + n - points.size()) / 2, most, justOne};
        return all[what];
    }

    private String corner(String side, int i) {
        return i == 0 ? "left" : i == n() ? "right" : side + i;
    }

    private static void merge(List<Set<String>> points) {
        for (int i = 0; i < points.size(); i++) {
            for (int k = i + 1; k < points.size(); k++) {
                if (!Collections.disjoint(points.get(i), points.get(k))) {
                    points.get(i).addAll(points.remove(k));
                    k = i;
                }
            }
        }
    }
}

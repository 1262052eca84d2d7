import java.util.Random;

/**
 * All promises: runs of calls, drawn from fixed seeds, answered by the program and by PlainBench. A run ends with a look
 * at all that can be seen, and stays within the calls for which the document promises answers.
 */
public final class ModelTest {
    private static final int[] ROOTS = {0, 2, 3, 5, 7};
    private static final int[] ODD = {
        Integer.MIN_VALUE, Integer.MAX_VALUE, -(1 << 29), 1 << 29, -(1 << 29) - 1, (1 << 29) + 1,
        -16384, 16384, -16385, 16385, -1001, -1000, 1000, 1001, -1, 0, 1, 2, 3, 7, 8, 9, 10, 11
    };

    private static final int MOST_CALLS = 512;
    private static final int MOST_CALLS_OF_A_DRAW = 60;
    private static final int MOST_CALLS_OF_THE_LOOK = 230;
    private static final int LENGTH_TRIES = 6;

    private final Random random;
    private final int run;
    private final SpanBench x = new SpanBench();
    private final PlainBench plain = new PlainBench();
    private int n = 2;
    private int rootNow = 0;
    private int calls = 0;

    private ModelTest(int run) {
        this.run = run;
        this.random = new Random(run);
    }

    public static void main(String[] args) {
        for (int run = 0; run < 6000 && Due.wrongSoFar() < 20; run++) {
            new ModelTest(run).go();
        }
        Due.end();
    }

    private void go() {
        layAnother();
        while (calls <= MOST_CALLS - MOST_CALLS_OF_A_DRAW - MOST_CALLS_OF_THE_LOOK) {
            switch (random.nextInt(16)) {
                case 0 -> layAnother();
                case 1 -> sheetCall();
                case 2, 3, 4 -> point();
                case 5, 6 -> move(random.nextInt(4) == 0 ? odd() : random.nextInt(61) - 30);
                case 7 -> back();
                case 8 -> visits();
                case 9, 10 -> same("step", x.step(), plain.step());
                case 11 -> steps();
                case 12 -> same("loop", x.loop(), plain.loop());
                case 13 -> rounds();
                case 14 -> words();
                default -> oddCall();
            }
            glance();
        }
        lookAtAll();
        Due.is("run " + run + " has at most 512 calls", calls <= MOST_CALLS, true);
    }

    private void same(String call, long got, long want) {
        calls++;
        Due.is("run " + run + ": " + call, got, want);
    }

    private void same(String call, boolean got, boolean want) {
        calls++;
        Due.is("run " + run + ": " + call, got, want);
    }

    private int odd() {
        return ODD[random.nextInt(ODD.length)];
    }

    private void layAnother() {
        if (random.nextInt(3) > 0) {
            rootNow = ROOTS[random.nextInt(ROOTS.length)];
            same("root", x.root(rootNow), plain.root(rootNow));
        }
        n = 2 + random.nextInt(random.nextInt(3) == 0 ? 7 : 4);
        int most = new int[] {3, 12, 200, 16384}[random.nextInt(4)];
        for (int k = 0; k < n; k++) {
            for (int tries = 0; tries < LENGTH_TRIES && !lengthUpTo(k, most); tries++) {
                continue;
            }
        }
        int order = shuffled();
        same("below " + Integer.toHexString(order), x.below(n, order), plain.below(n, order));
        same("lay", x.lay(), plain.lay());
    }

    private boolean lengthUpTo(int k, int most) {
        int a = random.nextInt(2 * most + 1) - most;
        int b = rootNow == 0 ? 0 : random.nextInt(2 * most + 1) - most;
        boolean taken = x.length(k, a, b);
        same("length " + a + " " + b, taken, plain.length(k, a, b));
        return taken;
    }

    private int shuffled() {
        int[] line = new int[n];
        int order = 0;
        for (int k = 0; k < n; k++) {
            int at = random.nextInt(k + 1);
            line[k] = line[at];
            line[at] = k;
        }
        for (int j = 0; j < n; j++) {
            order |= line[j] << (4 * j);
        }
        return order;
    }

    private void sheetCall() {
        int k = random.nextInt(12) - 2;
        int a = odd();
        int b = random.nextBoolean() ? 0 : odd();
        same("length " + k + " " + a + " " + b, x.length(k, a, b), plain.length(k, a, b));
        int m = random.nextInt(12) - 1;
        int order = random.nextInt(256);
        same("below " + m + " " + order, x.below(m, order), plain.below(m, order));
        int r = random.nextInt(1000) - 500;
        same("root " + r, x.root(r), plain.root(r));
        if (random.nextBoolean()) {
            same("lay", x.lay(), plain.lay());
        }
    }

    private void point() {
        // A share of TOTAL, brought off by a number that is small, though its parts may be large.
        long totalA = plain.spans(plain.of(0), 0);
        long totalB = plain.spans(plain.of(0), 1);
        int b = rootNow == 0 ? 0 : random.nextInt(3) == 0 ? random.nextInt(1 << 28) - (1 << 27) : random.nextInt(21) - 10;
        double line = totalA + totalB * Math.sqrt(rootNow);
        int a = (int) Math.floor(line * (random.nextDouble() * 1.1 - 0.05) - b * Math.sqrt(rootNow));
        same("point " + a + " " + b, x.point(a, b), plain.point(a, b));
        if (random.nextInt(4) == 0) {
            edgePoint();
        }
    }

    private void edgePoint() {
        long a = 0;
        long b = 0;
        int edges = random.nextInt(Math.max(1, plain.of(0)) + 1);
        for (int j = 0; j < edges; j++) {
            a += plain.spans(plain.order(0, j), 0);
            b += plain.spans(plain.order(0, j), 1);
        }
        int less = random.nextInt(2);
        same("point at an edge", x.point((int) a - less, (int) b), plain.point((int) a - less, (int) b));
    }

    private void move(int moves) {
        same("move " + moves, x.move(moves), plain.move(moves));
    }

    private void back() {
        int a = random.nextInt(4) == 0 ? odd() : random.nextInt(41) - 20;
        int b = rootNow == 0 ? random.nextInt(8) / 7 : random.nextInt(4) == 0 ? odd() : random.nextInt(41) - 20;
        same("back " + a + " " + b, x.back(a, b), plain.back(a, b));
    }

    private void visits() {
        int k = random.nextInt(9) - 1;
        int places = random.nextInt(4) == 0 ? odd() : random.nextInt(50);
        same("visits " + k + " " + places, x.visits(k, places), plain.visits(k, places));
    }

    private void steps() {
        int most = random.nextInt(3) == 0 ? odd() : random.nextInt(12);
        same("steps " + most, x.steps(most), plain.steps(most));
    }

    private void rounds() {
        same("rounds", x.rounds(), plain.rounds());
    }

    private void words() {
        int m = random.nextInt(13) - 1;
        same("words " + m, x.words(m), plain.words(m));
        if (random.nextInt(4) == 0) {
            same("classes", x.classes(), plain.classes());
        }
    }

    private void oddCall() {
        int p = odd();
        int q = odd();
        switch (random.nextInt(8)) {
            case 0 -> same("spans " + p + " " + q, x.spans(p, q), plain.spans(p, q));
            case 1 -> same("order " + p + " " + q, x.order(p, q), plain.order(p, q));
            case 2 -> same("table " + p + " " + q, x.table(p, q), plain.table(p, q));
            case 3 -> same("round " + p + " " + q, x.round(p, q), plain.round(p, q));
            case 4 -> same("of " + p, x.of(p), plain.of(p));
            case 5 -> same("ground " + p, x.ground(p), plain.ground(p));
            case 6 -> same("where " + p, x.where(p), plain.where(p));
            default -> same("point " + p + " " + q, x.point(p, q), plain.point(p, q));
        }
    }

    private void glance() {
        int k = random.nextInt(9);
        int what = random.nextInt(4);
        same("of " + what, x.of(what), plain.of(what));
        same("where 0", x.where(0), plain.where(0));
        same("where 1", x.where(1), plain.where(1));
        same("spans " + k, x.spans(k, what % 2), plain.spans(k, what % 2));
        same("order " + k, x.order(what % 2, k), plain.order(what % 2, k));
        same("round " + k, x.round(k / 3, k % 3), plain.round(k / 3, k % 3));
        same("table " + k, x.table(k / 2, what), plain.table(k / 2, what));
    }

    private void lookAtAll() {
        for (int what = -1; what <= 4; what++) {
            same("of " + what, x.of(what), plain.of(what));
            same("where " + what, x.where(what), plain.where(what));
            same("ground " + what, x.ground(what), plain.ground(what));
        }
        for (int k = -1; k <= 9; k++) {
            same("a of " + k, x.spans(k, 0), plain.spans(k, 0));
            same("b of " + k, x.spans(k, 1), plain.spans(k, 1));
            same("above " + k, x.order(0, k), plain.order(0, k));
            same("below " + k, x.order(1, k), plain.order(1, k));
            for (int j = -1; j <= 8; j++) {
                same("table " + k + " " + j, x.table(k, j), plain.table(k, j));
            }
            for (int what = -1; what <= 3; what++) {
                same("round " + k + " " + what, x.round(k, what), plain.round(k, what));
            }
        }
    }
}

/** A MOVER that is laid anew, or behind another root(), is as on a new object, whatever the bench did before. */
public final class AnewTest {
    /** ROOT, order, then a and b of each LENGTH. */
    private static final int[][] MOVERS = {
        {0, 0x01, 3, 0, 5, 0},
        {0, 0x10, 16384, 0, 1, 0},
        {0, 0x012, 3, 0, 5, 0, 3, 0},
        {0, 0x210, 4, 0, 6, 0, 10, 0},
        {0, 0x2301, 6, 0, 4, 0, 5, 0, 5, 0},
        {0, 0x501234, 1, 0, 2, 0, 3, 0, 4, 0, 5, 0, 6, 0},
        {0, 0x01234567, 110, 0, 70, 0, 50, 0, 171, 0, 33, 0, 91, 0, 12, 0, 64, 0},
        {2, 0x01, 1, 0, 0, 1},
        {2, 0x012, 1, 0, 1, 0, 0, 1},
        {5, 0x012, 7, -1, -1, 1, -1, 1},
        {7, 0x012345, 3, 1, -2, 1, 8, -3, 1, 0, 5, 2, 0, 1},
    };

    public static void main(String[] args) {
        for (int[] former : MOVERS) {
            for (int[] later : MOVERS) {
                isAsOnANewObject(former, later);
            }
        }
        Due.end();
    }

    private static void isAsOnANewObject(int[] former, int[] later) {
        String name = Integer.toHexString(former[1]) + ", then " + Integer.toHexString(later[1]);
        SpanBench x = new SpanBench();
        lay(x, former);
        useAll(x);
        // With the same ROOT the SHEET stays, and what it has of other SPANS must not be seen.
        if (former[0] != later[0]) {
            Due.is("root", x.root(later[0]), true);
        }
        tellAndLay(x, later);
        SpanBench fresh = new SpanBench();
        lay(fresh, later);
        Due.is(name + ": rounds", x.rounds(), fresh.rounds());
        Due.is(name + ": words", x.words(10), fresh.words(10));
        if (fresh.round(0, 0) < 0) {
            // The former rounds are still told, so both benches must have told the same ones to look alike.
            sameRounds(x);
            sameRounds(fresh);
            lay(x, later);
            lay(fresh, later);
        }
        Look.same(name, x, fresh);
    }

    private static void sameRounds(SpanBench x) {
        lay(x, MOVERS[0]);
        Due.is("rounds", x.rounds(), 1);
    }

    private static void lay(SpanBench x, int[] told) {
        Due.is("root", x.root(told[0]), true);
        tellAndLay(x, told);
    }

    private static void tellAndLay(SpanBench x, int[] told) {
        int n = (told.length - 2) / 2;
        for (int k = 0; k < n; k++) {
            Due.is("length", x.length(k, told[2 + 2 * k], told[3 + 2 * k]), true);
        }
        Due.is("below", x.below(n, told[1]), true);
        Due.is("lay", x.lay(), n);
    }

    private static void useAll(SpanBench x) {
        Due.is("point", x.point(0, 0), x.order(0, 0));
        Due.is("move", x.move(3) >= 0, true);
        Due.is("visits", x.visits(0, 10) >= 0, true);
        for (int times = 0; times < 2; times++) {
            Due.is("loop", x.loop() >= 0, true);
            Due.is("rounds", x.rounds() != -1, true);
            Due.is("words", x.words(10) > 0, true);
            Due.is("classes", x.classes() != -1, true);
            Due.is("ground", x.ground(0) > 0, true);
            Due.is("steps", x.steps(3) >= 0, true);
        }
    }
}

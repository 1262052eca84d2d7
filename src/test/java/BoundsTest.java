import java.util.Arrays;

/** Each bound that the document names in promises 2 to 13: the last that can be, and the first that can't. */
public final class BoundsTest {
    private static final long NOWHERE = -9000000000000000000L;
    private static final int REACH = 1 << 29;
    /** -318281039 + 225058681 times the root of 2 is above 0 by less than 0.000000002. */
    private static final int TINY_A = -318281039;
    private static final int TINY_B = 225058681;

    public static void main(String[] args) {
        rootsOnBothSides();
        spansOfLengths();
        partsOfLengths();
        leastLengthsAboveZero();
        ordersOfEachSize();
        partedAtEachPlace();
        lookedAtBeyondTheSpans();
        partsThatAreAskedFor();
        pointsAtTheEnds();
        pointsNearTheEnds();
        partsOfPoints();
        numbersOfMoves();
        movesToTheBounds();
        movesBeyondTheBoundsAndBack();
        numbersToComeBackBelow();
        comesBackJustBelow();
        placesThatAreVisited();
        lastPlaceWithinTheBounds();
        Due.end();
    }

    private static void rootsOnBothSides() {
        int[] can = {0, 2, 3, 5, 7};
        int[] cannot = {-7, -5, -3, -2, -1, 1, 4, 6, 8, 9, 11, 16};
        for (int r : can) {
            SpanBench x = new SpanBench();
            Due.is("root " + r, x.root(r), true);
            Due.is("a number with b, root " + r, x.length(0, 0, 1), r != 0);
            Due.is("again", x.root(r), true);
            for (int wrong : cannot) {
                Due.is("root " + wrong, x.root(wrong), false);
            }
            // What is above 0 tells the roots from one another.
            Due.is("3 - 2 root " + r, x.length(0, 3, -2), r == 2);
            Due.is("-3 + 2 root " + r, x.length(0, -3, 2), r > 2);
            Due.is("-4 + 2 root " + r, x.length(0, -4, 2), r > 3);
            Due.is("-5 + 2 root " + r, x.length(0, -5, 2), r > 5);
        }
    }

    private static void spansOfLengths() {
        SpanBench x = new SpanBench();
        Due.is("below", x.below(8, 0x01234567), true);
        Due.is("span -1", x.length(-1, 9, 0), false);
        for (int k = 0; k < 8; k++) {
            Due.is("span " + k, x.length(k, 10 + k, 0), true);
        }
        Due.is("span 8", x.length(8, 9, 0), false);
        Due.is("span 15", x.length(15, 9, 0), false);
        Due.is("lay", x.lay(), 8);
        for (int k = 0; k < 8; k++) {
            Due.is("length of " + k, x.spans(k, 0), 10 + k);
        }
        Due.is("told again", x.length(7, 1, 0), true);
        Due.is("the mover has the former one", x.spans(7, 0), 17);
        Due.is("lay", x.lay(), 8);
        Due.is("the latest counts", x.spans(7, 0), 1);
    }

    private static void partsOfLengths() {
        SpanBench whole = new SpanBench();
        Due.is("1", whole.length(0, 1, 0), true);
        Due.is("0", whole.length(0, 0, 0), false);
        Due.is("-1", whole.length(0, -1, 0), false);
        Due.is("16384", whole.length(0, 16384, 0), true);
        Due.is("16385", whole.length(0, 16385, 0), false);
        Due.is("b 1", whole.length(0, 16, 1), false);
        Due.is("b -1", whole.length(0, 16, -1), false);
        for (int r : new int[] {2, 3, 5, 7}) {
            SpanBench x = new SpanBench();
            Due.is("root", x.root(r), true);
            Due.is("a 16384", x.length(0, 16384, 0), true);
            Due.is("a 16385", x.length(0, 16385, 0), false);
            Due.is("a -16384", x.length(0, -16384, 16384), true);
            Due.is("a -16385", x.length(0, -16385, 16384), false);
            Due.is("b 16384", x.length(0, 0, 16384), true);
            Due.is("b 16385", x.length(0, 0, 16385), false);
            Due.is("both 16384", x.length(0, 16384, 16384), true);
            Due.is("a too large, b most", x.length(0, 16385, 16384), false);
            Due.is("b too large, a most", x.length(0, 16384, 16385), false);
            // With b as low as -16384 no a that can be brings the number above 0.
            Due.is("b -16384", x.length(0, 16384, -16384), false);
            Due.is("b -16385", x.length(0, 16384, -16385), false);
            Due.is("0", x.length(0, 0, 0), false);
            Due.is("b alone", x.length(0, 0, 1), true);
            Due.is("b alone, below 0", x.length(0, 0, -1), false);
            Due.is("both least", x.length(0, Integer.MIN_VALUE, Integer.MIN_VALUE), false);
        }
        SpanBench least = new SpanBench();
        Due.is("root", least.root(2), true);
        Due.is("16384 - 11585 root 2", least.length(0, 16384, -11585), true);
        Due.is("16384 - 11586 root 2", least.length(0, 16384, -11586), false);
    }

    /** Fractions that come nearest to each root: those above it, then those below it. */
    private static void leastLengthsAboveZero() {
        nearZero(2, 3363, 2378, true);
        nearZero(2, 8119, 5741, false);
        nearZero(3, 5042, 2911, true);
        nearZero(3, 13775, 7953, false);
        nearZero(5, 2889, 1292, true);
        nearZero(5, 12238, 5473, false);
        nearZero(7, 2024, 765, true);
        nearZero(7, 9403, 3554, false);
    }

    private static void nearZero(int r, int a, int b, boolean isAbove) {
        SpanBench x = new SpanBench();
        Due.is("root", x.root(r), true);
        Due.is(a + " - " + b + " root " + r, x.length(0, a, -b), isAbove);
        Due.is(-a + " + " + b + " root " + r, x.length(0, -a, b), !isAbove);
    }

    private static void ordersOfEachSize() {
        for (int n = 2; n <= 8; n++) {
            SpanBench x = new SpanBench();
            for (int k = 0; k < n; k++) {
                Due.is("length", x.length(k, 1, 0), true);
            }
            int[] straight = new int[n];
            int[] turned = new int[n];
            for (int j = 0; j < n; j++) {
                straight[j] = j;
                turned[j] = n - 1 - j;
            }
            takes(x, n, straight);
            takes(x, n, turned);
            for (int j = 0; j < n; j++) {
                int kept = turned[j];
                for (int wrong : new int[] {n, 15, turned[(j + 1) % n], turned[(j + n - 1) % n]}) {
                    turned[j] = wrong;
                    Due.is(wrong + " at " + j + " of " + n, x.below(n, packed(turned)), false);
                }
                turned[j] = kept;
            }
            if (n < 8) {
                Due.is("bits behind the n-th four", x.below(n, packed(straight) | -1 << (4 * n)), true);
            }
        }
        SpanBench x = new SpanBench();
        Due.is("n 1", x.below(1, 0x0), false);
        Due.is("n 2", x.below(2, 0x10), true);
        Due.is("n 8", x.below(8, 0x76543210), true);
        Due.is("n 9", x.below(9, 0x76543210), false);
        Due.is("n 10", x.below(10, 0x76543210), false);
        Due.is("n 0", x.below(0, 0), false);
        Due.is("n -2", x.below(-2, 0x10), false);
    }

    private static void takes(SpanBench x, int n, int[] line) {
        Due.is("below", x.below(n, packed(line)), true);
        Due.is("lay", x.lay(), n);
        Due.is("spans", x.of(0), n);
        for (int j = 0; j < n; j++) {
            Due.is("below " + j, x.order(1, j), line[j]);
        }
    }

    private static int packed(int[] line) {
        int order = 0;
        for (int j = 0; j < line.length; j++) {
            order |= line[j] << (4 * j);
        }
        return order;
    }

    private static SpanBench laidOnes(int[] line) {
        int[] ones = new int[line.length];
        Arrays.fill(ones, 1);
        return Due.laid(packed(line), ones);
    }

    /** The first j below are turned round, and so are all behind them: it is PARTED at j, and nowhere before. */
    private static void partedAtEachPlace() {
        for (int n = 2; n <= 8; n++) {
            for (int at = 1; at <= n; at++) {
                int[] line = new int[n];
                for (int j = 0; j < n; j++) {
                    line[j] = j < at ? at - 1 - j : n - 1 - (j - at);
                }
                Due.is("of " + n + " parted at " + at, laidOnes(line).of(2), at < n ? at : 0);
            }
        }
    }

    private static void lookedAtBeyondTheSpans() {
        for (int n = 2; n <= 8; n++) {
            int[] line = new int[n];
            for (int j = 0; j < n; j++) {
                line[j] = n - 1 - j;
            }
            SpanBench x = laidOnes(line);
            Due.is("first above", x.order(0, 0), 0);
            Due.is("last above", x.order(0, n - 1), n - 1);
            Due.is("last below", x.order(1, n - 1), 0);
            Due.is("above, one more", x.order(0, n), -1);
            Due.is("below, one more", x.order(1, n), -1);
            Due.is("above, one less", x.order(0, -1), -1);
            Due.is("below, one less", x.order(1, -1), -1);
            Due.is("last length", x.spans(n - 1, 0), 1);
            Due.is("total", x.spans(n, 0), n);
            Due.is("behind total", x.spans(n + 1, 0), 0);
            Due.is("before the first", x.spans(-1, 0), 0);
            Due.is("first number", x.table(0, 0), 1);
            Due.is("last number", x.table(n - 1, n - 1), 1);
            Due.is("last of the first row", x.table(0, n - 1), 0);
            Due.is("row n", x.table(n, 0), -1);
            Due.is("column n", x.table(0, n), -1);
            Due.is("row -1", x.table(-1, 0), -1);
            Due.is("column -1", x.table(0, -1), -1);
            Due.is("point", x.point(n - 1, 0), n - 1);
            Due.is("visits of the last", x.visits(n - 1, 1), 1);
            Due.is("visits of none", x.visits(n, 1), -1);
            Due.is("visits of -1", x.visits(-1, 1), -1);
        }
    }

    /** Both parts of all that is asked are unlike 0, so that no part is told for another one. */
    private static void partsThatAreAskedFor() {
        SpanBench x = Due.laidWithRoot(2, 0x01, 3, 1, 5, 2);
        long[][] parts = {{3, 1}, {5, 2}, {8, 3}};
        for (int k = 0; k <= 2; k++) {
            Due.is("a", x.spans(k, 0), parts[k][0]);
            Due.is("b", x.spans(k, 1), parts[k][1]);
            Due.is("what -1", x.spans(k, -1), 0);
            Due.is("what 2", x.spans(k, 2), 0);
            Due.is("what least", x.spans(k, Integer.MIN_VALUE), 0);
            Due.is("what most", x.spans(k, Integer.MAX_VALUE), 0);
        }
        Due.is("point", x.point(4, 1), 1);
        Due.is("a of the point", x.where(0), 4);
        Due.is("b of the point", x.where(1), 1);
        Due.is("where -1", x.where(-1), NOWHERE);
        Due.is("where 2", x.where(2), NOWHERE);
        for (int what = 0; what <= 3; what++) {
            Due.is("of " + what, x.of(what) >= 0, true);
            Due.is("ground " + what, x.ground(what) >= 0, true);
        }
        Due.is("of -1", x.of(-1), -1);
        Due.is("of 4", x.of(4), -1);
        Due.is("ground -1", x.ground(-1), -1);
        Due.is("ground 4", x.ground(4), -1);
        Due.is("where 0 of the orders", x.order(0, 0), 0);
        Due.is("where 1 of the orders", x.order(1, 0), 1);
        Due.is("where -1 of the orders", x.order(-1, 0), -1);
        Due.is("where 2 of the orders", x.order(2, 0), -1);
    }

    private static void pointsAtTheEnds() {
        SpanBench x = Due.laid(0x012, 2, 3, 4);
        Due.is("-1", x.point(-1, 0), -1);
        Due.is("0", x.point(0, 0), 0);
        Due.is("1", x.point(1, 0), 0);
        Due.is("2", x.point(2, 0), 1);
        Due.is("4", x.point(4, 0), 1);
        Due.is("5", x.point(5, 0), 2);
        Due.is("8", x.point(8, 0), 2);
        Due.is("9", x.point(9, 0), -1);
        Due.is("8 stays", x.where(0), 8);
        Due.is("b 1", x.point(0, 1), -1);
        Due.is("b -1", x.point(0, -1), -1);
        SpanBench most = Due.laid(0x01234567, 16384, 16384, 16384, 16384, 16384, 16384, 16384, 16384);
        Due.is("131071", most.point(131071, 0), 7);
        Due.is("131072", most.point(131072, 0), -1);
    }

    /** Ends of the SPANS are 1, root 2 and 1 + root 2: points are at them, and nearer than a double can tell. */
    private static void pointsNearTheEnds() {
        SpanBench x = Due.laidWithRoot(2, 0x012, 1, 0, -1, 1, 1, 0);
        nearEnd(x, 0, 0, -1, 0);
        nearEnd(x, 1, 0, 0, 1);
        nearEnd(x, 0, 1, 1, 2);
        nearEnd(x, 1, 1, 2, -1);
    }

    private static void nearEnd(SpanBench x, int a, int b, int left, int right) {
        Due.is("just left of " + a + " " + b, x.point(a - TINY_A, b - TINY_B), left);
        Due.is("at " + a + " " + b, x.point(a, b), right);
        Due.is("just right of " + a + " " + b, x.point(a + TINY_A, b + TINY_B), right);
    }

    /**
     * On the line b is nearer to 0 than a is, so a alone comes to a POINT's bounds. What is one beyond would be on the
     * line, so that nothing but the bound refuses it.
     */
    private static void partsOfPoints() {
        SpanBench x = Due.laidWithRoot(2, 0x01, 2, 0, 1, 1);
        Due.is("a 2 to the 29", x.point(REACH, -379625062), 0);
        Due.is("a 2 to the 29 and 1", x.point(REACH + 1, -379625062), -1);
        Due.is("a 2 to the 29 stays", x.where(0), REACH);
        Due.is("a -2 to the 29", x.point(-REACH, 379625063), 0);
        Due.is("a -2 to the 29 less 1", x.point(-REACH - 1, 379625064), -1);
        Due.is("a -2 to the 29 stays", x.where(0), -REACH);
        Due.is("b 2 to the 29", x.point(-REACH, REACH), -1);
        Due.is("b -2 to the 29", x.point(REACH, -REACH), -1);
        Due.is("b far", x.point(0, Integer.MAX_VALUE), -1);
        Due.is("b far below", x.point(0, Integer.MIN_VALUE), -1);
        Due.is("both far", x.point(Integer.MIN_VALUE, Integer.MAX_VALUE), -1);
        Due.is("b stays", x.where(1), 379625063);
        SpanBench seven = Due.laidWithRoot(7, 0x01, 2, 0, 1, 1);
        Due.is("root 7, a 2 to the 29", seven.point(REACH, -202918131), 0);
        Due.is("root 7, a 2 to the 29 and 1", seven.point(REACH + 1, -202918131), -1);
        Due.is("root 7, a -2 to the 29", seven.point(-REACH, 202918132), 0);
        Due.is("root 7, a -2 to the 29 less 1", seven.point(-REACH - 1, 202918133), -1);
    }

    private static void numbersOfMoves() {
        SpanBench x = Due.laid(0x01, 3, 1000);
        Due.is("point", x.point(500, 0), 1);
        // Each MOVE brings the point down by 3, round 1003.
        Due.is("1000", x.move(1000), 1);
        Due.is("at", x.where(0), Math.floorMod(500 - 3000, 1003));
        Due.is("1001", x.move(1001), -1);
        Due.is("-1001", x.move(-1001), -1);
        Due.is("most", x.move(Integer.MAX_VALUE), -1);
        Due.is("least", x.move(Integer.MIN_VALUE), -1);
        Due.is("it stays", x.where(0), Math.floorMod(500 - 3000, 1003));
        Due.is("0", x.move(0), 1);
        Due.is("it stays by 0 moves", x.where(0), Math.floorMod(500 - 3000, 1003));
        Due.is("-1000", x.move(-1000), 1);
        Due.is("back again", x.where(0), 500);
        Due.is("-1", x.move(-1), 1);
        Due.is("up by 3", x.where(0), 503);
    }

    /** Below lie 1 up to 2.41 and 0: forwards 0 adds 1 + root 2 and 1 takes 2; backwards 1 adds 2, 0 takes 1 + root 2. */
    private static SpanBench bothWays() {
        return Due.laidWithRoot(2, 0x01, 2, 0, 1, 1);
    }

    private static void movesToTheBounds() {
        moves(REACH - 1, -379625061, 1, REACH);
        moves(REACH, -379625062, 1, NOWHERE);
        moves(-REACH + 2, 379625063, 1, -REACH);
        moves(-REACH + 1, 379625064, 1, NOWHERE);
        moves(REACH - 2, -379625060, -1, REACH);
        moves(REACH - 1, -379625061, -1, NOWHERE);
        moves(-REACH + 1, 379625064, -1, -REACH);
        moves(-REACH, 379625065, -1, NOWHERE);
    }

    private static void moves(int a, int b, int way, long due) {
        SpanBench x = bothWays();
        String name = way + " from " + a + " " + b;
        Due.is(name, x.point(a, b) >= 0, true);
        Due.is(name + " is taken", x.move(way) >= 0, due != NOWHERE);
        Due.is(name + " leads to", x.where(0), due != NOWHERE ? due : a);
        if (due == NOWHERE) {
            Due.is(name + ": b stays", x.where(1), b);
        }
    }

    /** The second place would be within the bounds again, but the first one is not. */
    private static void movesBeyondTheBoundsAndBack() {
        SpanBench x = bothWays();
        Due.is("point", x.point(REACH, -379625062), 0);
        Due.is("no move is fine", x.move(0), 0);
        for (int n : new int[] {1, 2, 3, 1000}) {
            Due.is("move " + n, x.move(n), -1);
        }
        Due.is("back below 2", x.back(2, 0), -2);
        Due.is("back below 9, the first place", x.back(9, 0), -2);
        Due.is("1 place", x.visits(0, 1), 1);
        Due.is("1 place of the other", x.visits(1, 1), 0);
        Due.is("2 places", x.visits(0, 2), -1);
        Due.is("3 places", x.visits(0, 3), -1);
        Due.is("2 places of the other", x.visits(1, 2), -1);
        Due.is("a stays", x.where(0), REACH);
        Due.is("b stays", x.where(1), -379625062);
        Due.is("point", x.point(-REACH, 379625065), 1);
        for (int n : new int[] {-1, -2, -3, -1000}) {
            Due.is("move " + n, x.move(n), -1);
        }
        Due.is("a stays", x.where(0), -REACH);
        Due.is("b stays", x.where(1), 379625065);
    }

    /** All stays where it is, so that one MOVE is enough or none. */
    private static void numbersToComeBackBelow() {
        SpanBench x = Due.laidWithRoot(2, 0x10, 2, 0, 1, 1);
        Due.is("point", x.point(1, 0), 0);
        Due.is("0", x.back(0, 0), -1);
        Due.is("just below 0", x.back(-TINY_A, -TINY_B), -1);
        Due.is("just above 0", x.back(TINY_A, TINY_B), -2);
        Due.is("just below the point", x.back(1 - TINY_A, -TINY_B), -2);
        Due.is("the point itself", x.back(1, 0), -2);
        Due.is("just above the point", x.back(1 + TINY_A, TINY_B), 1);
        Due.is("a 2 to the 29", x.back(REACH, 0), 1);
        Due.is("a 2 to the 29 and 1", x.back(REACH + 1, 0), -1);
        Due.is("b 2 to the 29", x.back(0, REACH), 1);
        Due.is("b 2 to the 29 and 1", x.back(0, REACH + 1), -1);
        Due.is("both 2 to the 29", x.back(REACH, REACH), 1);
        Due.is("a -2 to the 29", x.back(-REACH, REACH), 1);
        Due.is("a -2 to the 29 less 1", x.back(-REACH - 1, REACH), -1);
        Due.is("b -2 to the 29 is below 0", x.back(REACH, -REACH), -1);
        Due.is("least", x.back(Integer.MIN_VALUE, REACH), -1);
        Due.is("most", x.back(Integer.MAX_VALUE, 0), -1);
        Due.is("b least", x.back(REACH, Integer.MIN_VALUE), -1);
        Due.is("b most", x.back(0, Integer.MAX_VALUE), -1);
        Due.is("far from the number", x.point(REACH, -379625062), 0);
        Due.is("2 to the 30 between them", x.back(-REACH, REACH), 1);
        Due.is("still the same", x.where(0), REACH);
        SpanBench whole = Due.laid(0x10, 3, 5);
        Due.is("point", whole.point(0, 0), 0);
        Due.is("whole: -1", whole.back(-1, 0), -1);
        Due.is("whole: 0", whole.back(0, 0), -1);
        Due.is("whole: 1", whole.back(1, 0), 1);
        Due.is("whole: b 1", whole.back(1, 1), -1);
        Due.is("whole: b -1", whole.back(1, -1), -1);
        Due.is("whole: 2 to the 29", whole.back(REACH, 0), 1);
        Due.is("whole: 2 to the 29 and 1", whole.back(REACH + 1, 0), -1);
    }

    private static void comesBackJustBelow() {
        // Each MOVE brings a point down by 1, and from 0 up to the end.
        SpanBench x = Due.laid(0x01, 1, 1001);
        Due.is("point", x.point(1001, 0), 1);
        Due.is("1001 moves", x.back(1, 0), -2);
        Due.is("it stays", x.where(0), 1001);
        Due.is("1000 moves", x.back(2, 0), 1000);
        Due.is("at 1", x.where(0), 1);
        Due.is("one at least", x.back(1, 0), 1);
        Due.is("at 0", x.where(0), 0);
        Due.is("from 0 on", x.back(1001, 0), 2);
        Due.is("at 1000", x.where(0), 1000);
    }

    private static void placesThatAreVisited() {
        // As above: from 999 on, the 1000th place is the first that has come down to 0, where SPAN 0 is.
        SpanBench x = Due.laid(0x01, 1, 1001);
        Due.is("point", x.point(999, 0), 1);
        Due.is("1000 places", x.visits(0, 1000), 1);
        Due.is("999 places", x.visits(0, 999), 0);
        Due.is("999 places of the other", x.visits(1, 999), 999);
        Due.is("1001 places", x.visits(0, 1001), -1);
        Due.is("1 place", x.visits(1, 1), 1);
        Due.is("no place", x.visits(1, 0), -1);
        Due.is("-1 places", x.visits(1, -1), -1);
        Due.is("most", x.visits(1, Integer.MAX_VALUE), -1);
        Due.is("least", x.visits(1, Integer.MIN_VALUE), -1);
        Due.is("span most", x.visits(Integer.MAX_VALUE, 1), -1);
        Due.is("span least", x.visits(Integer.MIN_VALUE, 1), -1);
        Due.is("it stays", x.where(0), 999);
    }

    /** A line from 0 to 1 on which each MOVE brings a down by 16383 or 16384: 32768 of them keep it in its bounds. */
    private static void lastPlaceWithinTheBounds() {
        SpanBench x = Due.laidWithRoot(2, 0x01, 16384, -11585, -16383, 11585);
        Due.is("point", x.point(0, 0), 0);
        for (int i = 0; i < 32; i++) {
            Due.is("a thousand moves", x.move(1000) >= 0, true);
        }
        long a = x.where(0);
        Due.is("769 places", x.visits(0, 769) + x.visits(1, 769), 769);
        Due.is("770 places", x.visits(0, 770), -1);
        Due.is("769 moves", x.move(769), -1);
        Due.is("it stays", x.where(0), a);
        Due.is("768 moves", x.move(768) >= 0, true);
        Due.is("near the bound", x.where(0) >= -REACH && x.where(0) < -REACH + 16384, true);
        Due.is("one more", x.move(1), -1);
        Due.is("one more to come back", x.back(1, 0), -2);
        Due.is("backwards it can", x.move(-768) >= 0, true);
        Due.is("as it was", x.where(0), a);
    }
}

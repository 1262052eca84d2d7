/** Promises 9 to 13: point, move, where, back, visits. */
public final class PointTest {
    private static final long NOWHERE = -9000000000000000000L;
    private static final int REACH = 1 << 29;

    public static void main(String[] args) {
        pointsOnTheLine();
        pointsThatAreRefused();
        pointsWithRoots();
        pointsBehindSteps();
        movesOfThreeSpans();
        movesBackwards();
        movesThatAreRefused();
        movesBeyondTheBounds();
        whereThePointIs();
        backBelowANumber();
        backThatIsRefused();
        backNotWithinAThousand();
        backBeyondTheBounds();
        visitsOfSpans();
        visitsThatAreRefused();
        visitsBeyondTheBounds();
        Due.end();
    }

    private static void pointsOnTheLine() {
        SpanBench x = Due.laid(0x012, 2, 3, 4);
        int[] span = {0, 0, 1, 1, 1, 2, 2, 2, 2};
        for (int a = 0; a < 9; a++) {
            Due.is("point " + a, x.point(a, 0), span[a]);
            Due.is("where", x.where(0), a);
            Due.is("where b", x.where(1), 0);
        }
    }

    private static void pointsThatAreRefused() {
        SpanBench x = Due.laid(0x012, 2, 3, 4);
        Due.is("point", x.point(7, 0), 2);
        Due.is("left of the line", x.point(-1, 0), -1);
        Due.is("at its end", x.point(9, 0), -1);
        Due.is("b with root 0", x.point(1, 1), -1);
        Due.is("b with root 0, below 0", x.point(1, -1), -1);
        Due.is("far", x.point(Integer.MAX_VALUE, 0), -1);
        Due.is("far left", x.point(Integer.MIN_VALUE, 0), -1);
        Due.is("b far", x.point(0, Integer.MIN_VALUE), -1);
        Due.is("it stays", x.where(0), 7);
    }

    private static void pointsWithRoots() {
        // Ends of the SPANS: 1, root 2, 1 + root 2.
        SpanBench x = Due.laidWithRoot(2, 0x012, 1, 0, -1, 1, 1, 0);
        Due.is("0", x.point(0, 0), 0);
        Due.is("-1 + root 2", x.point(-1, 1), 0);
        Due.is("1", x.point(1, 0), 1);
        Due.is("7 - 4 root 2 = 1.34", x.point(7, -4), 1);
        Due.is("root 2", x.point(0, 1), 2);
        Due.is("2", x.point(2, 0), 2);
        Due.is("1 + root 2", x.point(1, 1), -1);
        Due.is("3 - 2 root 2 = 0.17", x.point(3, -2), 0);
        Due.is("-3 + 2 root 2", x.point(-3, 2), -1);
        Due.is("it stays", x.where(1), -2);
        // 536870912 squared is 288230376151711744; twice 379625062 squared 288230375397007688.
        Due.is("the farthest a", x.point(REACH, -379625062), 0);
        Due.is("one more", x.point(REACH + 1, -379625062), -1);
        Due.is("it is there", x.where(0), REACH);
        Due.is("-the farthest a", x.point(-REACH, 379625063), 0);
        Due.is("-the farthest a less", x.point(-REACH - 1, 379625063), -1);
        Due.is("-the farthest a, off the line", x.point(-REACH, 379625062), -1);
        Due.is("it is there still", x.where(1), 379625063);
    }

    private static void pointsBehindSteps() {
        SpanBench x = Due.laid(0x012, 2, 3, 4);
        Due.is("steps", x.steps(4), 4);
        // Above are 0, 2, 1 now, each of length 1.
        Due.is("point 0", x.point(0, 0), 0);
        Due.is("point 1", x.point(1, 0), 2);
        Due.is("point 2", x.point(2, 0), 1);
        Due.is("point 3", x.point(3, 0), -1);
    }

    private static void movesOfThreeSpans() {
        SpanBench x = Due.laid(0x012, 2, 3, 4);
        // Below are 2 from 0 on, 1 from 4 on, 0 from 7 on.
        int[] to = {7, 8, 4, 5, 6, 0, 1, 2, 3};
        int[] span = {0, 0, 1, 1, 1, 2, 2, 2, 2};
        for (int a = 0; a < 9; a++) {
            Due.is("point", x.point(a, 0), span[a]);
            Due.is("move", x.move(1), span[to[a]]);
            Due.is("moved", x.where(0), to[a]);
            Due.is("move back", x.move(-1), span[a]);
            Due.is("moved back", x.where(0), a);
        }
        Due.is("no move", x.move(0), 2);
        Due.is("it is where it was", x.where(0), 8);
    }

    private static void movesBackwards() {
        SpanBench x = Due.laidWithRoot(5, 0x01, 2, 0, 1, 1);
        Due.is("point", x.point(0, 1), 1);
        Due.is("1000", x.move(1000) >= 0, true);
        Due.is("it has moved", x.where(1) != 1, true);
        Due.is("-1000", x.move(-1000), 1);
        Due.is("a", x.where(0), 0);
        Due.is("b", x.where(1), 1);
        Due.is("-3", x.move(-3) >= 0, true);
        Due.is("3", x.move(3), 1);
        Due.is("a", x.where(0), 0);
        Due.is("b", x.where(1), 1);
    }

    private static void movesThatAreRefused() {
        SpanBench x = Due.laid(0x01, 3, 5);
        Due.is("no point", x.move(1), -1);
        Due.is("point", x.point(4, 0), 1);
        Due.is("1001", x.move(1001), -1);
        Due.is("-1001", x.move(-1001), -1);
        Due.is("most", x.move(Integer.MAX_VALUE), -1);
        Due.is("least", x.move(Integer.MIN_VALUE), -1);
        Due.is("it stays", x.where(0), 4);
        Due.is("1000 is 125 rounds", x.move(1000), 1);
        Due.is("it is back", x.where(0), 4);
    }

    /** A line from 0 to 1 on which each MOVE brings b up by 11585, and a down by 16383 or 16384. */
    private static SpanBench farMover() {
        return Due.laidWithRoot(2, 0x01, 16384, -11585, -16383, 11585);
    }

    private static void movesBeyondTheBounds() {
        SpanBench x = farMover();
        Due.is("point", x.point(0, 0), 0);
        // a is b root 2 below 0, and a rest below 1: 32768 MOVES are the most that keep it within 2 to the 29.
        for (int i = 0; i < 32; i++) {
            Due.is("a thousand moves", x.move(1000) >= 0, true);
        }
        Due.is("b behind 32000 moves", x.where(1), 32000L * 11585L);
        long a = x.where(0);
        Due.is("the next thousand", x.move(1000), -1);
        Due.is("a stays", x.where(0), a);
        Due.is("b stays", x.where(1), 32000L * 11585L);
        Due.is("one too many", x.move(769), -1);
        Due.is("moves up to the bound", x.move(768) >= 0, true);
        Due.is("no more", x.move(1), -1);
        Due.is("still within", x.where(0) >= -REACH && x.where(0) < -REACH + 16384, true);
        Due.is("backwards it can", x.move(-768) >= 0, true);
        Due.is("as it was", x.where(0), a);
        Due.is("at the other bound", x.point(REACH, -379625062), 1);
        Due.is("backwards it can't", x.move(-1), -1);
        Due.is("forwards it can", x.move(1) >= 0, true);
    }

    private static void whereThePointIs() {
        SpanBench x = Due.laidWithRoot(7, 0x01, 3, 0, 0, 1);
        Due.is("no point", x.where(0), NOWHERE);
        Due.is("no point, b", x.where(1), NOWHERE);
        Due.is("point", x.point(-2, 1), 0);
        Due.is("a", x.where(0), -2);
        Due.is("b", x.where(1), 1);
        Due.is("what 2", x.where(2), NOWHERE);
        Due.is("what -1", x.where(-1), NOWHERE);
        Due.is("what least", x.where(Integer.MIN_VALUE), NOWHERE);
        Due.is("move", x.move(1), 1);
        Due.is("a moved", x.where(0), -2);
        Due.is("b moved", x.where(1), 2);
    }

    private static void backBelowANumber() {
        SpanBench x = Due.laid(0x01, 3, 5);
        Due.is("point", x.point(0, 0), 0);
        // 0 5 2 7 4 1 6 3 0
        Due.is("one move at least", x.back(6, 0), 1);
        Due.is("at 5", x.where(0), 5);
        Due.is("back below 3", x.back(3, 0), 1);
        Due.is("at 2", x.where(0), 2);
        Due.is("back below 2", x.back(2, 0), 3);
        Due.is("at 1", x.where(0), 1);
        Due.is("back below 1", x.back(1, 0), 3);
        Due.is("at 0", x.where(0), 0);
        Due.is("back below 1 from 0", x.back(1, 0), 8);
        Due.is("below the greatest number", x.back(REACH, 0), 1);
        SpanBench y = Due.laidWithRoot(2, 0x01, 1, 0, 0, 1);
        // 0, 1.414, 0.414 (not below itself), 1.828, 0.828, 2.243, 1.243, 0.243: 3 root 2 - 4
        Due.is("point", y.point(0, 0), 0);
        Due.is("back below root 2 - 1", y.back(-1, 1), 7);
        Due.is("a", y.where(0), -4);
        Due.is("b", y.where(1), 3);
        Due.is("back below 1", y.back(1, 0), 2);
    }

    private static void backThatIsRefused() {
        SpanBench x = Due.laid(0x01, 3, 5);
        Due.is("no point", x.back(3, 0), -1);
        Due.is("point", x.point(4, 0), 1);
        Due.is("below 0", x.back(0, 0), -1);
        Due.is("below -1", x.back(-1, 0), -1);
        Due.is("b with root 0", x.back(3, 1), -1);
        Due.is("a beyond", x.back(REACH + 1, 0), -1);
        Due.is("a most", x.back(Integer.MAX_VALUE, 0), -1);
        Due.is("it stays", x.where(0), 4);
        SpanBench y = Due.laidWithRoot(2, 0x01, 1, 0, 0, 1);
        Due.is("point", y.point(1, 0), 1);
        Due.is("1 - root 2", y.back(1, -1), -1);
        Due.is("b beyond", y.back(0, REACH + 1), -1);
        Due.is("b beyond, below", y.back(REACH, -REACH - 1), -1);
        Due.is("a beyond, below", y.back(-REACH - 1, REACH), -1);
        Due.is("both far apart", y.back(-REACH, REACH), 1);
    }

    private static void backNotWithinAThousand() {
        SpanBench x = Due.laid(0x01, 1, 1000);
        // A MOVE brings a point down by 1, and from 0 up to 1000.
        Due.is("point", x.point(1000, 0), 1);
        Due.is("just within", x.back(1, 0), 1000);
        Due.is("at 0", x.where(0), 0);
        Due.is("not within", x.back(1, 0), -2);
        Due.is("it stays", x.where(0), 0);
        SpanBench y = Due.laid(0x10, 3, 5);
        Due.is("point", y.point(4, 0), 1);
        Due.is("never", y.back(4, 0), -2);
        Due.is("at once", y.back(5, 0), 1);
    }

    private static void backBeyondTheBounds() {
        SpanBench x = farMover();
        Due.is("point", x.point(-REACH, 379625063), 1);
        Due.is("beyond at once", x.back(1, 0), -2);
        Due.is("beyond at once, though below", x.back(REACH, 0), -2);
        Due.is("it stays", x.where(0), -REACH);
        Due.is("back by one", x.move(-1) >= 0, true);
        Due.is("within", x.back(REACH, 0), 1);
        Due.is("at the bound", x.where(0), -REACH);
    }

    private static void visitsOfSpans() {
        SpanBench x = Due.laid(0x012, 2, 3, 4);
        // 0 7 2 4 6 1 8 3 5 0
        Due.is("point", x.point(0, 0), 0);
        int[][] due = {{1, 0, 0}, {1, 0, 1}, {1, 1, 1}, {1, 2, 1}, {1, 2, 2}, {2, 2, 2}, {2, 2, 3}, {2, 3, 3}, {2, 3, 4}};
        for (int n = 1; n <= 9; n++) {
            for (int k = 0; k < 3; k++) {
                Due.is("visits " + k + " within " + n, x.visits(k, n), due[n - 1][k]);
            }
        }
        Due.is("within 1000", x.visits(2, 1000), 111 * 4);
        Due.is("the point stays", x.where(0), 0);
    }

    private static void visitsThatAreRefused() {
        SpanBench x = Due.laid(0x012, 2, 3, 4);
        Due.is("no point", x.visits(0, 1), -1);
        Due.is("point", x.point(0, 0), 0);
        Due.is("k -1", x.visits(-1, 1), -1);
        Due.is("k 3", x.visits(3, 1), -1);
        Due.is("k most", x.visits(Integer.MAX_VALUE, 1), -1);
        Due.is("n 0", x.visits(0, 0), -1);
        Due.is("n -1", x.visits(0, -1), -1);
        Due.is("n 1001", x.visits(0, 1001), -1);
        Due.is("n least", x.visits(0, Integer.MIN_VALUE), -1);
    }

    private static void visitsBeyondTheBounds() {
        SpanBench x = farMover();
        Due.is("point", x.point(-REACH, 379625063), 1);
        Due.is("the first place", x.visits(1, 1), 1);
        Due.is("the first place, the other span", x.visits(0, 1), 0);
        Due.is("no second place", x.visits(1, 2), -1);
        Due.is("no second place for the other span", x.visits(0, 2), -1);
        Due.is("it stays", x.where(0), -REACH);
    }
}

import java.util.Arrays;

/** Each bound that the document names in promises 14 to 22: the last that can be, and the first that can't. */
public final class StepBoundsTest {
    private static final long NOWHERE = -9000000000000000000L;

    public static void main(String[] args) {
        whoIsLongerByLittle();
        partsThatAreSpent();
        thePointAtTheNewEnd();
        numbersOfSteps();
        stepsUpToARefusal();
        loopsNeedBothOrders();
        loopsOfThreeHundred();
        loopsThatEndBefore();
        totalsOfRounds();
        leastAndMostRounds();
        roundsStayAsTheyWereTold();
        lengthsOfWords();
        sizesOfClasses();
        groundsOfEachSize();
        Due.end();
    }

    /** 5741 root 2 is above 8119 by less than 0.0001, and alike with itself. */
    private static void whoIsLongerByLittle() {
        Due.is("u by little", Due.laidWithRoot(2, 0x01, 8119, 0, 0, 5741).step(), 1);
        Due.is("v by little", Due.laidWithRoot(2, 0x01, 0, 5741, 8119, 0).step(), 0);
        Due.is("alike", Due.laidWithRoot(2, 0x01, 8119, 5741, 8119, 5741).step(), -3);
        Due.is("whole, u by 1", Due.laid(0x01, 16383, 16384).step(), 1);
        Due.is("whole, v by 1", Due.laid(0x01, 16384, 16383).step(), 0);
        Due.is("whole, alike", Due.laid(0x01, 16384, 16384).step(), -3);
        Due.is("the same one", Due.laid(0x10, 16383, 16384).step(), -2);
    }

    /**
     * A LENGTH above 0 with b as low as -16384 has an a that is too large, so b is SPENT above alone. Numbers of THE
     * TABLE stay below 2 to the 33 as long as LENGTHS are in their bounds, so these are never what SPENDS a STEP.
     */
    private static void partsThatAreSpent() {
        winnerLess(16383, 0, -1, 1, true);
        winnerLess(16384, 0, -1, 1, false);
        winnerLess(-16383, 16384, 1, 0, true);
        winnerLess(-16384, 16384, 1, 0, false);
        winnerLess(0, 16383, 2, -1, true);
        winnerLess(0, 16384, 2, -1, false);
    }

    private static void winnerLess(int a, int b, int loserA, int loserB, boolean can) {
        for (int winner = 0; winner < 2; winner++) {
            String name = a + " " + b + " less " + loserA + " " + loserB + ", winner " + winner;
            SpanBench x = winner == 1
                    ? Due.laidWithRoot(2, 0x01, loserA, loserB, a, b) : Due.laidWithRoot(2, 0x01, a, b, loserA, loserB);
            Due.is(name, x.step(), can ? winner : -4);
            Due.is(name + ": a", x.spans(winner, 0), can ? a - loserA : a);
            Due.is(name + ": b", x.spans(winner, 1), can ? b - loserB : b);
            Due.is(name + ": total's a", x.spans(2, 0), can ? a : a + loserA);
            Due.is(name + ": total's b", x.spans(2, 1), can ? b : b + loserB);
            Due.is(name + ": steps", x.of(1), can ? 1 : 0);
            Due.is(name + ": steps of u", x.of(3), can ? winner : 0);
            Due.is(name + ": table", x.table(winner, 1 - winner), can ? 1 : 0);
            Due.is(name + ": loser's row", x.table(1 - winner, winner), 0);
        }
    }

    private static void thePointAtTheNewEnd() {
        // A STEP brings TOTAL from 8 to 5.
        for (int a = 0; a < 8; a++) {
            SpanBench x = Due.laid(0x01, 3, 5);
            Due.is("point", x.point(a, 0) >= 0, true);
            Due.is("step", x.step(), 1);
            Due.is("from " + a, x.where(0), a < 5 ? a : NOWHERE);
            SpanBench y = Due.laid(0x01, 5, 3);
            Due.is("point", y.point(a, 0) >= 0, true);
            Due.is("steps", y.steps(1), 1);
            Due.is("from " + a + ", v wins", y.where(0), a < 5 ? a : NOWHERE);
        }
        // TOTAL comes to be root 2; 318281039 is less than 225058681 root 2 by less than 0.000000002.
        nearNewEnd(0, 1, false);
        nearNewEnd(318281039, 1 - 225058681, true);
        nearNewEnd(-318281039, 1 + 225058681, false);
        SpanBench tie = Due.laid(0x01, 5, 5);
        Due.is("point", tie.point(9, 0), 1);
        Due.is("a tie", tie.step(), -3);
        Due.is("it stays by a tie", tie.where(0), 9);
        Due.is("no steps", tie.steps(5), 0);
        Due.is("it stays by no steps", tie.where(0), 9);
    }

    private static void nearNewEnd(int a, int b, boolean stays) {
        SpanBench x = Due.laidWithRoot(2, 0x01, 1, 0, 0, 1);
        Due.is("point", x.point(a, b) >= 0, true);
        Due.is("step", x.step(), 1);
        Due.is("a " + a, x.where(0), stays ? a : NOWHERE);
        Due.is("b " + b, x.where(1), stays ? b : NOWHERE);
    }

    private static void numbersOfSteps() {
        SpanBench x = Due.laid(0x01, 16384, 1);
        Due.is("0", x.steps(0), -1);
        Due.is("-1", x.steps(-1), -1);
        Due.is("1001", x.steps(1001), -1);
        Due.is("none done", x.of(1), 0);
        Due.is("1", x.steps(1), 1);
        Due.is("1 done", x.of(1), 1);
        Due.is("1000", x.steps(1000), 1000);
        Due.is("1001 done", x.of(1), 1001);
        Due.is("999", x.steps(999), 999);
        Due.is("length", x.spans(0, 0), 16384 - 2000);
        Due.is("table", x.table(0, 1), 2000);
    }

    private static void stepsUpToARefusal() {
        // 5 and 8 come to a TIE behind 4 STEPS: 5 3, 2 3, 2 1, 1 1.
        for (int n = 1; n <= 6; n++) {
            SpanBench x = Due.laid(0x01, 5, 8);
            Due.is("up to " + n, x.steps(n), Math.min(n, 4));
            Due.is("done", x.of(1), Math.min(n, 4));
            Due.is("then", x.steps(1000), 4 - Math.min(n, 4));
            Due.is("a tie", x.step(), -3);
        }
        Due.is("a tie at once", Due.laid(0x01, 5, 5).steps(1000), 0);
        Due.is("can't be", Due.laid(0x10, 5, 8).steps(1000), 0);
        SpanBench spent = Due.laidWithRoot(2, 0x01, 1, 0, -16383, 16384);
        Due.is("spent behind one", spent.steps(1000), 1);
        Due.is("spent", spent.step(), -4);
        Due.is("spent at once", spent.steps(1), 0);
        Due.is("one was done", spent.of(1), 1);
    }

    /** Shares that come back while an order has not yet: above alone, below alone, and both. */
    private static void loopsNeedBothOrders() {
        loopBehind(Due.laidWithRoot(5, 0x012, 7, -1, -1, 1, -1, 1), 8, 32, false, true);
        loopBehind(Due.laidWithRoot(3, 0x102, 2, 1, 8, 4, 2, 2), 17, 32, true, false);
        loopBehind(Due.laidWithRoot(2, 0x021, 7, 0, -4, 6, 2, 4), 14, 0, false, false);
        loopBehind(Due.laidWithRoot(3, 0x102, 3, 0, 2, 0, -6, 4), 13, 0, true, false);
        loopBehind(Due.laidWithRoot(5, 0x021, 8, -3, -4, 2, -6, 3), 17, 0, false, true);
    }

    private static void loopBehind(SpanBench x, int sharesAt, int due, boolean aboveIsSame, boolean belowIsSame) {
        long[] a = {x.spans(0, 0), x.spans(1, 0), x.spans(2, 0)};
        long[] b = {x.spans(0, 1), x.spans(1, 1), x.spans(2, 1)};
        int above = packedOrder(x, 0);
        int below = packedOrder(x, 1);
        Due.is("loop", x.loop(), due);
        Due.is("steps", x.steps(sharesAt), sharesAt);
        Due.is("above is the same", packedOrder(x, 0) == above, aboveIsSame);
        Due.is("below is the same", packedOrder(x, 1) == below, belowIsSame);
        double share = value(x, x.spans(0, 0), x.spans(0, 1)) / value(x, a[0], b[0]);
        for (int k = 1; k < 3; k++) {
            double other = value(x, x.spans(k, 0), x.spans(k, 1)) / value(x, a[k], b[k]);
            Due.is("shares are the same", Math.abs(share / other - 1) < 0.000001, true);
        }
        if (due > 0) {
            Due.is("steps to the loop", x.steps(due - sharesAt), due - sharesAt);
            Due.is("above", packedOrder(x, 0), above);
            Due.is("below", packedOrder(x, 1), below);
        }
    }

    /** ROOT is told by what can be above 0. */
    private static double value(SpanBench x, long a, long b) {
        double root = x.length(7, 3, -2) ? Math.sqrt(2) : x.length(7, -4, 2) ? Math.sqrt(5) : Math.sqrt(3);
        return a + b * root;
    }

    private static int packedOrder(SpanBench x, int where) {
        int order = 0;
        for (int j = 0; j < x.of(0); j++) {
            order |= x.order(where, j) << (4 * j);
        }
        return order;
    }

    private static void loopsOfThreeHundred() {
        SpanBench just = Due.laidWithRoot(5, 0x01, 1782, 797, 369, 165);
        Due.is("300", just.loop(), 300);
        Due.is("step", just.step() >= 0, true);
        Due.is("300 from the next place on", just.loop(), 300);
        SpanBench more = Due.laidWithRoot(2, 0x01, 5, 1, 937, 663);
        Due.is("301", more.loop(), 0);
        Due.is("all of them can be done", more.steps(301), 301);
        Due.is("1782 and 369 alone end before", Due.laid(0x01, 1782, 369).loop(), 0);
    }

    private static void loopsThatEndBefore() {
        // 1 and root 2 come round by 4 STEPS, until parts are too large.
        SpanBench x = Due.laidWithRoot(2, 0x01, 1, 0, 0, 1);
        int done = 0;
        while (done < 100 && x.loop() == 4) {
            Due.is("step", x.step() >= 0, true);
            done++;
        }
        Due.is("no loop any more", x.loop(), 0);
        Due.is("fewer than 4 steps are left", x.steps(1000) < 4, true);
        Due.is("it is spent", x.step(), -4);
        Due.is("it is spent: no loop", x.loop(), 0);
        Due.is("a tie at once", Due.laid(0x01, 1, 1).loop(), 0);
        Due.is("can't be", Due.laidWithRoot(2, 0x10, 1, 0, 0, 1).loop(), 0);
        // More than 300 STEPS of whole LENGTHS: the shares change by each of them.
        Due.is("no end, and no loop, within 300", Due.laid(0x01, 16384, 1).loop(), 0);
    }

    private static void rounds(String name, SpanBench x, int... dues) {
        Due.is(name + ": rounds", x.rounds(), dues.length / 3);
        told(name, x, dues);
    }

    private static void told(String name, SpanBench x, int... dues) {
        for (int i = 0; i < dues.length; i++) {
            Due.is(name + ": round " + i / 3 + " what " + i % 3, x.round(i / 3, i % 3), dues[i]);
        }
        Due.is(name + ": one more", x.round(dues.length / 3, 0), -1);
    }

    private static void totalsOfRounds() {
        rounds("2000", Due.laid(0x10, 1999, 1), 1999, 1, 0, 1, 1, 1999);
        Due.is("2001", Due.laid(0x10, 2000, 1).rounds(), -2);
        rounds("2000 of eight", Due.laid(0x01234567, 250, 250, 250, 250, 250, 250, 250, 250),
                250, 2, 0, 250, 2, 250, 250, 2, 500, 250, 2, 750);
        Due.is("2001 of eight", Due.laid(0x01234567, 251, 250, 250, 250, 250, 250, 250, 250).rounds(), -2);
        Due.is("16384", Due.laid(0x10, 8192, 8192).rounds(), -2);
        SpanBench x = Due.laid(0x01, 2000, 1);
        Due.is("2001 at first", x.rounds(), -2);
        Due.is("step", x.step(), 0);
        rounds("2000 behind a step", x, 1, 2000, 0);
        for (int r : new int[] {2, 3, 5, 7}) {
            Due.is("root " + r, Due.laidWithRoot(r, 0x01, 3, 0, 5, 0).rounds(), -2);
        }
        SpanBench root = Due.laidWithRoot(2, 0x01, 3, 0, 5, 0);
        Due.is("a root and a large total", Due.laidWithRoot(2, 0x01, 3000, 0, 5, 0).rounds(), -2);
        Due.is("root 0", root.root(0), true);
        Due.is("root 0, no mover", root.rounds(), -1);
    }

    private static void leastAndMostRounds() {
        rounds("the least total", Due.laid(0x01, 1, 1), 1, 2, 0);
        rounds("the least total, each at its place", Due.laid(0x10, 1, 1), 1, 1, 0, 1, 1, 1);
        SpanBench eight = Due.laid(0x76543210, 1, 1, 1, 1, 1, 1, 1, 1);
        Due.is("eight rounds", eight.rounds(), 8);
        for (int k = 0; k < 8; k++) {
            Due.is("width", eight.round(k, 0), 1);
            Due.is("times", eight.round(k, 1), 1);
            Due.is("least", eight.round(k, 2), k);
        }
        Due.is("round 8", eight.round(8, 0), -1);
        Due.is("round -1", eight.round(-1, 0), -1);
        Due.is("what -1", eight.round(7, -1), -1);
        Due.is("what 3", eight.round(7, 3), -1);
        Due.is("what least", eight.round(7, Integer.MIN_VALUE), -1);
        Due.is("what most", eight.round(7, Integer.MAX_VALUE), -1);
        Due.is("round least", eight.round(Integer.MIN_VALUE, 0), -1);
        Due.is("round most", eight.round(Integer.MAX_VALUE, 0), -1);
    }

    /** "The latest rounds() that told some": only another rounds() that tells some takes their place. */
    private static void roundsStayAsTheyWereTold() {
        int[] first = {3, 2, 0, 5, 1, 3};
        SpanBench x = Due.laid(0x012, 3, 5, 3);
        rounds("told", x, first);
        Due.is("length", x.length(0, 1990, 0), true);
        told("length", x, first);
        Due.is("below", x.below(2, 0x01), true);
        told("below", x, first);
        Due.is("lay", x.lay(), 2);
        told("lay", x, first);
        Due.is("point", x.point(7, 0), 0);
        Due.is("move", x.move(5) >= 0, true);
        told("moves", x, first);
        Due.is("steps", x.steps(2), 2);
        told("steps", x, first);
        Due.is("length", x.length(1, 11, 0), true);
        Due.is("lay", x.lay(), 2);
        Due.is("2001", x.rounds(), -2);
        told("refused by total", x, first);
        Due.is("root", x.root(2), true);
        told("root", x, first);
        Due.is("no mover", x.rounds(), -1);
        told("refused without a mover", x, first);
        Due.is("length", x.length(0, 1, 0), true);
        Due.is("length", x.length(1, 1, 0), true);
        Due.is("below", x.below(2, 0x01), true);
        Due.is("lay", x.lay(), 2);
        Due.is("a root", x.rounds(), -2);
        told("refused by root", x, first);
        Due.is("root", x.root(0), true);
        Due.is("length", x.length(0, 1, 0), true);
        Due.is("length", x.length(1, 1, 0), true);
        Due.is("below", x.below(2, 0x01), true);
        Due.is("lay", x.lay(), 2);
        told("another mover", x, first);
        rounds("told anew", x, 1, 2, 0);
    }

    private static void lengthsOfWords() {
        SpanBench x = Due.laidWithRoot(2, 0x01, 1, 0, 0, 1);
        Due.is("-1", x.words(-1), -2);
        Due.is("0", x.words(0), -2);
        Due.is("1", x.words(1), 2);
        Due.is("10", x.words(10), 11);
        Due.is("11", x.words(11), -2);
        Due.is("10 again", x.words(10), 11);
        Due.is("least", x.words(Integer.MIN_VALUE), -2);
        Due.is("most", x.words(Integer.MAX_VALUE), -2);
        SpanBench eight = Due.laid(0x01234567, 1, 1, 1, 1, 1, 1, 1, 1);
        Due.is("of eight, 1", eight.words(1), 8);
        Due.is("of eight, 10", eight.words(10), 8);
        SpanBench far = Due.laidWithRoot(2, 0x01, 16384, 16384, -16384, 16384);
        Due.is("the longest line, 10", far.words(10), 11);
    }

    private static void sizesOfClasses() {
        int[] turned = {0, 0, 0x01, 0x012, 0x0123, 0x01234, 0x012345, 0x0123456, 0x01234567};
        int[] due = {0, 0, 1, 3, 7, 15, 31, -2, -2};
        for (int n = 2; n <= 8; n++) {
            int[] ones = new int[n];
            Arrays.fill(ones, 1);
            SpanBench x = Due.laid(turned[n], ones);
            Due.is("class of " + n, x.classes(), due[n]);
            Due.is("class of " + n + ", asked again", x.classes(), due[n]);
            SpanBench same = Due.laid(0x76543210, ones);
            Due.is("as above, of " + n, same.classes(), n <= 6 ? 1 : -2);
            Due.is("as above, of " + n + ", asked again", same.classes(), n <= 6 ? 1 : -2);
        }
        SpanBench x = Due.laid(0x012345, 1, 1, 1, 1, 1, 1);
        Due.is("six", x.classes(), 31);
        Due.is("below", x.below(2, 0x01), true);
        Due.is("lay", x.lay(), 2);
        Due.is("two behind six", x.classes(), 1);
        Due.is("below", x.below(6, 0x012345), true);
        Due.is("lay", x.lay(), 6);
        Due.is("six again", x.classes(), 31);
    }

    private static void groundsOfEachSize() {
        int[] turned = {0, 0, 0x01, 0x012, 0x0123, 0x01234, 0x012345, 0x0123456, 0x01234567};
        for (int n = 2; n <= 8; n++) {
            int[] ones = new int[n];
            Arrays.fill(ones, 1);
            SpanBench x = Due.laid(turned[n], ones);
            SpanBench same = Due.laid(0x76543210, ones);
            for (int times = 0; times < 2; times++) {
                // All turned round: an even n has one POINT, an odd one two with the same TURNS.
                int points = n % 2 == 0 ? 1 : 2;
                ground(x, points, n / 2, (n - 1) / points, n == 2 ? 1 : n == 3 ? 2 : 0);
                // As above: each corner between two sides is a POINT, and so are the left and the right one.
                ground(same, n + 1, 0, 1, n - 1);
            }
        }
    }

    private static void ground(SpanBench x, int points, int handles, int mostTurns, int ofOneTurn) {
        Due.is("points of " + x.of(0), x.ground(0), points);
        Due.is("handles of " + x.of(0), x.ground(1), handles);
        Due.is("most turns of " + x.of(0), x.ground(2), mostTurns);
        Due.is("points of one turn of " + x.of(0), x.ground(3), ofOneTurn);
        Due.is("ground -1", x.ground(-1), -1);
        Due.is("ground 4", x.ground(4), -1);
    }
}

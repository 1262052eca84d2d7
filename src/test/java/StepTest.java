/** Promises 14 to 17: step, steps, table, loop. */
public final class StepTest {
    private static final long NOWHERE = -9000000000000000000L;

    public static void main(String[] args) {
        stepsOfFourSpans();
        stepsThatAreRefused();
        aSpentStepChangesNothing();
        thePointGoesOffTheLine();
        manySteps();
        manyStepsThatAreRefused();
        theTableMakesTheFirstLengths();
        tableThatThereIsNone();
        loopsOfTwoSpans();
        loopsOfMoreSpans();
        theLongestLoops();
        noLoops();
        theMoverStaysByALoop();
        Due.end();
    }

    private static void stepsOfFourSpans() {
        SpanBench x = Due.laid(0x0123, 10, 20, 30, 45);
        // u is 3, v is 0: 3 wins, and 0 comes behind 3 below.
        Due.is("3 against 0", x.step(), 1);
        orders(x, "0123", "3021");
        lengths(x, 10, 20, 30, 35, 95);
        Due.is("3 against 1", x.step(), 1);
        orders(x, "0123", "3102");
        lengths(x, 10, 20, 30, 15, 75);
        // v is 2 and wins: 3 comes behind 2 above, where it is.
        Due.is("3 against 2", x.step(), 0);
        orders(x, "0123", "3102");
        lengths(x, 10, 20, 15, 15, 60);
        Due.is("3 and 2 are alike", x.step(), -3);
        lengths(x, 10, 20, 15, 15, 60);
        SpanBench y = Due.laid(0x0123, 45, 20, 30, 10);
        // v is 0 and wins: 3, then 2, come behind 0 above.
        Due.is("3 against 0", y.step(), 0);
        orders(y, "0312", "3210");
        lengths(y, 35, 20, 30, 10, 95);
        Due.is("2 against 0", y.step(), 0);
        orders(y, "0231", "3210");
        lengths(y, 5, 20, 30, 10, 65);
        Due.is("1 against 0", y.step(), 1);
        orders(y, "0231", "3210");
        lengths(y, 5, 15, 30, 10, 60);
        Due.is("steps", y.of(1), 3);
        Due.is("steps of u", y.of(3), 1);
    }

    private static void orders(SpanBench x, String above, String below) {
        for (int j = 0; j < above.length(); j++) {
            Due.is("above " + above + " " + j, x.order(0, j), above.charAt(j) - '0');
            Due.is("below " + below + " " + j, x.order(1, j), below.charAt(j) - '0');
        }
    }

    private static void lengths(SpanBench x, long... due) {
        for (int k = 0; k < due.length; k++) {
            Due.is("length of " + k, x.spans(k, 0), due[k]);
        }
    }

    private static void stepsThatAreRefused() {
        Due.is("no mover", new SpanBench().step(), -1);
        SpanBench same = Due.laid(0x201, 4, 5, 6);
        Due.is("the last are the same one", same.step(), -2);
        Due.is("no step was done", same.of(1), 0);
        SpanBench tie = Due.laid(0x01, 5, 5);
        Due.is("a tie", tie.step(), -3);
        Due.is("no step was done", tie.of(1), 0);
        SpanBench sameAndAlike = Due.laid(0x10, 5, 5);
        Due.is("the last are the same one, not a tie", sameAndAlike.step(), -2);
    }

    private static void aSpentStepChangesNothing() {
        // b of 1 would be 16385.
        SpanBench b = Due.laidWithRoot(2, 0x01, 2, -1, 0, 16384);
        Due.is("b is spent", b.step(), -4);
        Due.is("b stays", b.spans(1, 1), 16384);
        Due.is("total's b stays", b.spans(2, 1), 16383);
        Due.is("table stays", b.table(1, 0), 0);
        Due.is("no step was done", b.of(1), 0);
        Due.is("order stays", b.order(1, 1), 0);
        // a of 1 would be -16385, and is -16384 with one less.
        Due.is("a is spent", Due.laidWithRoot(2, 0x01, 1, 0, -16384, 16384).step(), -4);
        SpanBench a = Due.laidWithRoot(2, 0x01, 1, 0, -16383, 16384);
        Due.is("a is at its bound", a.step(), 1);
        Due.is("a", a.spans(1, 0), -16384);
        Due.is("one more", a.step(), -4);
        SpanBench most = Due.laidWithRoot(2, 0x01, 1, -0, 16384, 0);
        Due.is("whole ones are not spent", most.step(), 1);
        SpanBench v = Due.laidWithRoot(2, 0x01, 16384, 0, -1, 1);
        Due.is("v's a would be 16385", v.step(), -4);
    }

    private static void thePointGoesOffTheLine() {
        SpanBench x = Due.laid(0x01, 3, 5);
        Due.is("point", x.point(4, 0), 1);
        Due.is("step", x.step(), 1);
        Due.is("total is 5: it stays", x.where(0), 4);
        Due.is("step", x.step(), 0);
        Due.is("total is 3: it goes", x.where(0), NOWHERE);
        Due.is("no moves any more", x.move(1), -1);
        Due.is("lay", x.lay(), 2);
        Due.is("point", x.point(5, 0), 1);
        Due.is("step", x.step(), 1);
        Due.is("at the end: it goes", x.where(0), NOWHERE);
        Due.is("lay", x.lay(), 2);
        Due.is("point", x.point(2, 0), 0);
        Due.is("steps", x.steps(2), 2);
        Due.is("it stays", x.where(0), 2);
        // 0 has 0 to 1 above and 2 to 3 below, 1 has 1 to 3 above and 0 to 2 below.
        Due.is("it moves as the mover is now", x.move(1), 1);
        Due.is("moved", x.where(0), 1);
        Due.is("steps", x.steps(5), 1);
        Due.is("total is 2: it stays", x.where(0), 1);
        Due.is("lay", x.lay(), 2);
        Due.is("point", x.point(2, 0), 0);
        Due.is("steps", x.steps(5), 3);
        Due.is("total is 2: it goes", x.where(0), NOWHERE);
    }

    private static void manySteps() {
        SpanBench x = Due.laid(0x01, 16384, 1);
        Due.is("1000", x.steps(1000), 1000);
        Due.is("length", x.spans(0, 0), 15384);
        Due.is("steps", x.of(1), 1000);
        Due.is("steps of u", x.of(3), 0);
        Due.is("1", x.steps(1), 1);
        for (int i = 0; i < 15; i++) {
            Due.is("1000 more", x.steps(1000), 1000);
        }
        Due.is("up to the tie", x.steps(1000), 382);
        Due.is("length 1", x.spans(0, 0), 1);
        Due.is("the table has all", x.table(0, 1), 16383);
        Due.is("none more", x.steps(1000), 0);
        Due.is("a tie", x.step(), -3);
    }

    private static void manyStepsThatAreRefused() {
        SpanBench x = Due.laid(0x01, 16384, 1);
        Due.is("0", x.steps(0), -1);
        Due.is("-1", x.steps(-1), -1);
        Due.is("1001", x.steps(1001), -1);
        Due.is("least", x.steps(Integer.MIN_VALUE), -1);
        Due.is("most", x.steps(Integer.MAX_VALUE), -1);
        Due.is("no step was done", x.of(1), 0);
        Due.is("no mover", new SpanBench().steps(5), -1);
        Due.is("can't be", Due.laid(0x10, 5, 4).steps(5), 0);
    }

    private static void theTableMakesTheFirstLengths() {
        int[] first = {1009, 757, 883, 411, 1201};
        SpanBench x = Due.laid(0x01234, first);
        for (int steps = 0; steps < 12; steps++) {
            for (int i = 0; i < 5; i++) {
                long sum = 0;
                for (int j = 0; j < 5; j++) {
                    sum += x.table(i, j) * x.spans(j, 0);
                }
                Due.is("row " + i + " behind " + steps, sum, first[i]);
            }
            Due.is("step", x.step() >= 0, true);
        }
        SpanBench y = Due.laid(0x012, 2, 3, 4);
        Due.is("2 wins against 0", y.step(), 1);
        Due.is("row 2 has 0", y.table(2, 0), 1);
        Due.is("row 2 has 2", y.table(2, 2), 1);
        Due.is("row 0 has no 2", y.table(0, 2), 0);
        Due.is("1 wins against 2", y.step(), 0);
        Due.is("row 1 has 2", y.table(1, 2), 1);
        Due.is("row 2 has no 1", y.table(2, 1), 0);
        Due.is("lay", y.lay(), 3);
        Due.is("as at first", y.table(2, 0), 0);
        Due.is("as at first", y.table(2, 2), 1);
    }

    private static void tableThatThereIsNone() {
        SpanBench x = Due.laid(0x012, 2, 3, 4);
        Due.is("row -1", x.table(-1, 0), -1);
        Due.is("row 3", x.table(3, 0), -1);
        Due.is("column -1", x.table(0, -1), -1);
        Due.is("column 3", x.table(0, 3), -1);
        Due.is("row least", x.table(Integer.MIN_VALUE, 0), -1);
        Due.is("column most", x.table(0, Integer.MAX_VALUE), -1);
        Due.is("row 7 of eight", Due.laid(0x01234567, 1, 1, 1, 1, 1, 1, 1, 1).table(7, 7), 1);
        Due.is("no mover", new SpanBench().table(0, 0), -1);
    }

    private static void loopsOfTwoSpans() {
        // 1 : 1.414, 1 : 0.414, 0.586 : 0.414, 0.172 : 0.414, 0.172 : 0.243 as at first
        SpanBench x = Due.laidWithRoot(2, 0x01, 1, 0, 0, 1);
        Due.is("1 and root 2", x.loop(), 4);
        Due.is("steps", x.steps(1), 1);
        Due.is("from another place in it", x.loop(), 4);
        SpanBench golden = Due.laidWithRoot(5, 0x01, 2, 0, 1, 1);
        Due.is("golden", golden.loop(), 2);
        // 1 and 7 + 5 root 2 (14.07, and its reverse is 0.07): 14 STEPS of u, 14 STEPS of v.
        Due.is("a longer one", Due.laidWithRoot(2, 0x01, 1, 0, 7, 5).loop(), 28);
    }

    private static void loopsOfMoreSpans() {
        // 8 STEPS: u, v, v, u (1 comes to 0.172, 2 to 0.243), then v four times (0 comes to 0.172).
        SpanBench x = Due.laidWithRoot(2, 0x012, 1, 0, 1, 0, 0, 1);
        Due.is("three spans", x.loop(), 8);
        Due.is("steps", x.steps(5), 5);
        Due.is("three spans from another place in it", x.loop(), 8);
        Due.is("four spans", Due.laidWithRoot(2, 0x0123, 0, 3, 0, 1, 2, 0, 2, 1).loop(), 31);
        Due.is("five spans", Due.laidWithRoot(3, 0x31204, 2, 0, 4, 2, 4, 2, 2, 2, 0, 2).loop(), 16);
        // Spans 1 and 2 alone would be in a loop of 2; 0 is parted, and its share grows.
        Due.is("a parted one", Due.laidWithRoot(5, 0x120, 7, 0, 2, 0, 1, 1).loop(), 0);
    }

    private static void theLongestLoops() {
        Due.is("just 300", Due.laidWithRoot(5, 0x01, 1782, 797, 369, 165).loop(), 300);
        Due.is("just 300, three spans", Due.laidWithRoot(2, 0x012, 30, 21, 69, 49, 178, 126).loop(), 300);
        SpanBench x = Due.laidWithRoot(2, 0x01, 5, 1, 937, 663);
        Due.is("301 are too many", x.loop(), 0);
        Due.is("steps", x.steps(301), 301);
        // Both lengths have come to be 3363 - 2378 root 2 times what they were.
        lengths(x, 12059, -2097);
        Due.is("b of 0", x.spans(0, 1), -8527);
        Due.is("b of 1", x.spans(1, 1), 1483);
        orders(x, "01", "10");
    }

    private static void noLoops() {
        Due.is("no mover", new SpanBench().loop(), -1);
        Due.is("whole lengths end", Due.laid(0x01, 5, 8).loop(), 0);
        Due.is("can't be", Due.laid(0x10, 5, 8).loop(), 0);
        Due.is("a tie", Due.laid(0x01, 5, 5).loop(), 0);
        Due.is("spent", Due.laidWithRoot(2, 0x01, 2, -1, 0, 16384).loop(), 0);
    }

    private static void theMoverStaysByALoop() {
        SpanBench x = Due.laidWithRoot(5, 0x01, 2, 0, 1, 1);
        Due.is("point", x.point(3, 0), 1);
        Due.is("loop", x.loop(), 2);
        Due.is("steps", x.of(1), 0);
        Due.is("steps of u", x.of(3), 0);
        Due.is("length", x.spans(1, 0), 1);
        Due.is("total", x.spans(2, 0), 3);
        Due.is("table", x.table(1, 0), 0);
        Due.is("order", x.order(1, 0), 1);
        Due.is("point stays", x.where(0), 3);
        Due.is("loop again", x.loop(), 2);
    }
}

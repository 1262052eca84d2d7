/** Promises 1 to 5: a new object, root, length, below, lay. */
public final class SheetTest {
    private static final long NOWHERE = -9000000000000000000L;

    public static void main(String[] args) {
        aNewObject();
        rootsThatCanBe();
        rootMakesAllAsAtFirst();
        aRefusedRootChangesNothing();
        lengthsAndTheirBounds();
        lengthsWithRoots();
        ordersBelow();
        aRefusedOrderChangesNothing();
        layNeedsOrderAndLengths();
        everySpanNeedsItsLength();
        aRefusedLayChangesNothing();
        layTakesTheSheetAsItIs();
        Due.end();
    }

    private static void aNewObject() {
        SpanBench x = new SpanBench();
        Due.is("NONE", SpanBench.NONE, -1);
        Due.is("new lay", x.lay(), -1);
        for (int what = 0; what < 4; what++) {
            Due.is("new of", x.of(what), -1);
            Due.is("new ground", x.ground(what), -1);
        }
        Due.is("new spans", x.spans(0, 0), 0);
        Due.is("new order", x.order(0, 0), -1);
        Due.is("new point", x.point(0, 0), -1);
        Due.is("new move", x.move(1), -1);
        Due.is("new where", x.where(0), NOWHERE);
        Due.is("new back", x.back(1, 0), -1);
        Due.is("new visits", x.visits(0, 1), -1);
        Due.is("new step", x.step(), -1);
        Due.is("new steps", x.steps(1), -1);
        Due.is("new table", x.table(0, 0), -1);
        Due.is("new loop", x.loop(), -1);
        Due.is("new rounds", x.rounds(), -1);
        Due.is("new round", x.round(0, 0), -1);
        Due.is("new words", x.words(1), -1);
        Due.is("new words, m 0", x.words(0), -1);
        Due.is("new classes", x.classes(), -1);
        Due.is("new length b", x.length(0, 5, 1), false);
        Due.is("new below", x.below(2, 0x01), true);
        Due.is("no lengths yet", x.lay(), -2);
    }

    private static void rootsThatCanBe() {
        SpanBench x = new SpanBench();
        for (int r = -20; r <= 20; r++) {
            Due.is("root " + r, x.root(r), r == 0 || r == 2 || r == 3 || r == 5 || r == 7);
        }
        Due.is("root least", x.root(Integer.MIN_VALUE), false);
        Due.is("root most", x.root(Integer.MAX_VALUE), false);
    }

    private static void rootMakesAllAsAtFirst() {
        SpanBench x = Due.laid(0x01, 3, 5);
        Due.is("point", x.point(4, 0), 1);
        Due.is("rounds", x.rounds(), 1);
        Due.is("root 0 again", x.root(0), true);
        Due.is("mover is gone", x.of(0), -1);
        Due.is("total is gone", x.spans(2, 0), 0);
        Due.is("total is gone, k 0", x.spans(0, 0), 0);
        Due.is("point is gone", x.where(0), NOWHERE);
        Due.is("move", x.move(0), -1);
        Due.is("order is gone", x.lay(), -1);
        Due.is("below", x.below(2, 0x01), true);
        Due.is("lengths are gone", x.lay(), -2);
        Due.is("rounds without a mover", x.rounds(), -1);
        Due.is("the rounds that were told stay", x.round(0, 1), 8);
        Due.is("root 2", x.root(2), true);
        Due.is("length with b", x.length(0, 0, 1), true);
        Due.is("root 0", x.root(0), true);
        Due.is("length with b is refused again", x.length(0, 0, 1), false);
    }

    private static void aRefusedRootChangesNothing() {
        SpanBench x = Due.laidWithRoot(2, 0x01, 1, 0, 0, 1);
        Due.is("point", x.point(0, 1), 1);
        Due.is("root 4", x.root(4), false);
        Due.is("mover stays", x.of(0), 2);
        Due.is("point stays", x.where(1), 1);
        Due.is("root stays", x.length(0, 1, 1), true);
        Due.is("sheet stays", x.lay(), 2);
        Due.is("sheet's length", x.spans(0, 1), 1);
    }

    private static void lengthsAndTheirBounds() {
        SpanBench x = new SpanBench();
        Due.is("k -1", x.length(-1, 1, 0), false);
        Due.is("k 8", x.length(8, 1, 0), false);
        Due.is("k least", x.length(Integer.MIN_VALUE, 1, 0), false);
        Due.is("k most", x.length(Integer.MAX_VALUE, 1, 0), false);
        Due.is("k 7", x.length(7, 1, 0), true);
        Due.is("a 16384", x.length(0, 16384, 0), true);
        Due.is("a 16385", x.length(0, 16385, 0), false);
        Due.is("a most", x.length(0, Integer.MAX_VALUE, 0), false);
        Due.is("a 0", x.length(0, 0, 0), false);
        Due.is("a -1", x.length(0, -1, 0), false);
        Due.is("a least", x.length(0, Integer.MIN_VALUE, 0), false);
        Due.is("b 1 with root 0", x.length(0, 1, 1), false);
        Due.is("b -1 with root 0", x.length(0, 1, -1), false);
        Due.is("length 1", x.length(1, 1, 0), true);
        Due.is("below", x.below(2, 0x01), true);
        Due.is("lay", x.lay(), 2);
        Due.is("a refused length changes nothing", x.spans(0, 0), 16384);
    }

    private static void lengthsWithRoots() {
        SpanBench x = new SpanBench();
        // 7 / 5 is below the root of 2, 3 / 2 above it; 8119 / 5741 is below it by less than 0.00000002.
        Due.is("root 2", x.root(2), true);
        Due.is("3 - 2 root 2", x.length(0, 3, -2), true);
        Due.is("-3 + 2 root 2", x.length(0, -3, 2), false);
        Due.is("7 - 5 root 2", x.length(0, 7, -5), false);
        Due.is("-7 + 5 root 2", x.length(0, -7, 5), true);
        Due.is("8119 - 5741 root 2", x.length(0, 8119, -5741), false);
        Due.is("-8119 + 5741 root 2", x.length(0, -8119, 5741), true);
        Due.is("b 16384", x.length(0, 0, 16384), true);
        Due.is("b 16385", x.length(0, 0, 16385), false);
        Due.is("b -16385", x.length(0, 16384, -16385), false);
        Due.is("a -16384", x.length(0, -16384, 16384), true);
        Due.is("a -16385", x.length(0, -16385, 16384), false);
        Due.is("b -1 alone", x.length(0, 0, -1), false);
        Due.is("both below 0", x.length(0, -1, -1), false);
        Due.is("b least", x.length(0, 1, Integer.MIN_VALUE), false);
        // 5 / 2 is below the root of 7, 8 / 3 above it.
        Due.is("root 7", x.root(7), true);
        Due.is("8 - 3 root 7", x.length(0, 8, -3), true);
        Due.is("-8 + 3 root 7", x.length(0, -8, 3), false);
        Due.is("-5 + 2 root 7", x.length(0, -5, 2), true);
        Due.is("root 3", x.root(3), true);
        Due.is("7 - 4 root 3", x.length(0, 7, -4), true);
        Due.is("5 - 3 root 3", x.length(0, 5, -3), false);
    }

    private static void ordersBelow() {
        SpanBench x = new SpanBench();
        Due.is("n 1", x.below(1, 0), false);
        Due.is("n 0", x.below(0, 0), false);
        Due.is("n -1", x.below(-1, 0), false);
        Due.is("n 9", x.below(9, 0x76543210), false);
        Due.is("n least", x.below(Integer.MIN_VALUE, 0x10), false);
        Due.is("n most", x.below(Integer.MAX_VALUE, 0x10), false);
        Due.is("n 8", x.below(8, 0x01234567), true);
        Due.is("n 8, one twice", x.below(8, 0x01234566), false);
        Due.is("n 8, 8 is none", x.below(8, 0x81234567), false);
        Due.is("n 3, 3 is none", x.below(3, 0x310), false);
        Due.is("n 2, one twice", x.below(2, 0x11), false);
        Due.is("n 2, one twice, 0", x.below(2, 0x00), false);
        Due.is("bits behind the n-th four are not looked at", x.below(2, 0xFFFFFF01), true);
        Due.is("n 4", x.below(4, 0x2031), true);
        for (int k = 0; k < 4; k++) {
            Due.is("length", x.length(k, k + 1, 0), true);
        }
        Due.is("lay", x.lay(), 4);
        int[] below = {1, 3, 0, 2};
        for (int j = 0; j < 4; j++) {
            Due.is("below from the lowest bits on", x.order(1, j), below[j]);
            Due.is("above as it is at first", x.order(0, j), j);
        }
    }

    private static void aRefusedOrderChangesNothing() {
        SpanBench x = Due.laid(0x01, 3, 5);
        Due.is("below refused", x.below(3, 0x110), false);
        Due.is("below refused, n", x.below(9, 0x110), false);
        Due.is("lay", x.lay(), 2);
        Due.is("order stays", x.order(1, 0), 1);
    }

    private static void layNeedsOrderAndLengths() {
        SpanBench x = new SpanBench();
        Due.is("length", x.length(0, 1, 0), true);
        Due.is("length", x.length(1, 1, 0), true);
        Due.is("length", x.length(3, 1, 0), true);
        Due.is("no order", x.lay(), -1);
        Due.is("below", x.below(4, 0x0123), true);
        Due.is("span 2 has no length", x.lay(), -2);
        Due.is("below", x.below(3, 0x012), true);
        Due.is("span 2 has no length", x.lay(), -2);
        Due.is("below", x.below(2, 0x01), true);
        Due.is("two are enough", x.lay(), 2);
        Due.is("length", x.length(2, 1, 0), true);
        Due.is("the order tells how many", x.lay(), 2);
    }

    private static void everySpanNeedsItsLength() {
        for (int without = 0; without < 8; without++) {
            SpanBench x = Due.laid(0x01234567, 1, 1, 1, 1, 1, 1, 1, 1);
            Due.is("root takes all lengths", x.root(0), true);
            Due.is("below", x.below(8, 0x01234567), true);
            for (int k = 0; k < 8; k++) {
                if (k != without) {
                    Due.is("length", x.length(k, 1, 0), true);
                }
            }
            Due.is("none for " + without, x.lay(), -2);
            Due.is("length", x.length(without, 1, 0), true);
            Due.is("all have one", x.lay(), 8);
        }
    }

    private static void aRefusedLayChangesNothing() {
        SpanBench x = Due.laid(0x01, 3, 5);
        Due.is("point", x.point(4, 0), 1);
        Due.is("step", x.step(), 1);
        Due.is("below", x.below(3, 0x012), true);
        Due.is("lay", x.lay(), -2);
        Due.is("spans stay", x.of(0), 2);
        Due.is("steps stay", x.of(1), 1);
        Due.is("point stays", x.where(0), 4);
    }

    private static void layTakesTheSheetAsItIs() {
        SpanBench x = Due.laid(0x01, 3, 5);
        Due.is("point", x.point(4, 0), 1);
        Due.is("steps", x.steps(2), 2);
        Due.is("length", x.length(0, 10, 0), true);
        Due.is("the mover is another thing than the sheet", x.spans(0, 0), 1);
        Due.is("below", x.below(2, 0x10), true);
        Due.is("order stays", x.order(1, 0), 1);
        Due.is("lay", x.lay(), 2);
        Due.is("laid length", x.spans(0, 0), 10);
        Due.is("laid total", x.spans(2, 0), 15);
        Due.is("laid order", x.order(1, 0), 0);
        Due.is("no steps", x.of(1), 0);
        Due.is("no steps of u", x.of(3), 0);
        Due.is("table as at first", x.table(1, 1), 1);
        Due.is("table as at first, beside", x.table(1, 0), 0);
        Due.is("the point goes", x.where(0), NOWHERE);
    }
}

/** Promises 6 to 8: of, spans, order. */
public final class MoverTest {
    public static void main(String[] args) {
        ofTheMover();
        whereItIsParted();
        lengthsAndTotal();
        ordersAboveAndBelow();
        Due.end();
    }

    private static void ofTheMover() {
        SpanBench x = Due.laid(0x012, 2, 3, 4);
        Due.is("spans", x.of(0), 3);
        Due.is("steps", x.of(1), 0);
        Due.is("steps of u", x.of(3), 0);
        Due.is("of -1", x.of(-1), -1);
        Due.is("of 4", x.of(4), -1);
        Due.is("of least", x.of(Integer.MIN_VALUE), -1);
        Due.is("of most", x.of(Integer.MAX_VALUE), -1);
        Due.is("step", x.step(), 1);
        Due.is("step", x.step(), 0);
        Due.is("step", x.step(), 1);
        Due.is("step", x.step(), 0);
        Due.is("a tie is no step", x.step(), -3);
        Due.is("steps", x.of(1), 4);
        Due.is("steps of u", x.of(3), 2);
    }

    private static void whereItIsParted() {
        Due.is("parted at 1", Due.laid(0x120, 1, 1, 1).of(2), 1);
        Due.is("parted at 2", Due.laid(0x201, 1, 1, 1).of(2), 2);
        Due.is("parted at the first of two", Due.laid(0x2301, 1, 1, 1, 1).of(2), 2);
        Due.is("as above", Due.laid(0x3210, 1, 1, 1, 1).of(2), 1);
        Due.is("parted at 3", Due.laid(0x3012, 1, 1, 1, 1).of(2), 3);
        Due.is("not parted", Due.laid(0x0123, 1, 1, 1, 1).of(2), 0);
        Due.is("not parted, round", Due.laid(0x0321, 1, 1, 1, 1).of(2), 0);
        Due.is("not parted, eight", Due.laid(0x01234567, 1, 1, 1, 1, 1, 1, 1, 1).of(2), 0);
        Due.is("parted at 7", Due.laid(0x70123456, 1, 1, 1, 1, 1, 1, 1, 1).of(2), 7);
        SpanBench x = Due.laid(0x120, 9, 2, 3);
        Due.is("u wins", x.step(), 1);
        Due.is("parted still", x.of(2), 1);
    }

    private static void lengthsAndTotal() {
        SpanBench x = Due.laidWithRoot(3, 0x0123, 5, 0, -1, 1, 2, -1, 0, 7);
        long[] a = {5, -1, 2, 0, 6};
        long[] b = {0, 1, -1, 7, 7};
        for (int k = 0; k <= 4; k++) {
            Due.is("a of " + k, x.spans(k, 0), a[k]);
            Due.is("b of " + k, x.spans(k, 1), b[k]);
        }
        Due.is("k -1", x.spans(-1, 0), 0);
        Due.is("k 5", x.spans(5, 0), 0);
        Due.is("k least", x.spans(Integer.MIN_VALUE, 0), 0);
        Due.is("k most", x.spans(Integer.MAX_VALUE, 1), 0);
        Due.is("what -1", x.spans(0, -1), 0);
        Due.is("what 2", x.spans(4, 2), 0);
        SpanBench most = Due.laid(0x01234567, 16384, 16384, 16384, 16384, 16384, 16384, 16384, 16384);
        Due.is("the greatest total", most.spans(8, 0), 131072);
        Due.is("k 9", most.spans(9, 0), 0);
    }

    private static void ordersAboveAndBelow() {
        SpanBench x = Due.laid(0x012, 2, 3, 4);
        for (int j = 0; j < 3; j++) {
            Due.is("above " + j, x.order(0, j), j);
            Due.is("below " + j, x.order(1, j), 2 - j);
        }
        Due.is("where -1", x.order(-1, 0), -1);
        Due.is("where 2", x.order(2, 0), -1);
        Due.is("j -1", x.order(0, -1), -1);
        Due.is("j 3", x.order(0, 3), -1);
        Due.is("j least", x.order(1, Integer.MIN_VALUE), -1);
        Due.is("j most", x.order(1, Integer.MAX_VALUE), -1);
        Due.is("steps", x.steps(4), 4);
        int[] above = {0, 2, 1};
        int[] below = {2, 1, 0};
        for (int j = 0; j < 3; j++) {
            Due.is("above behind steps " + j, x.order(0, j), above[j]);
            Due.is("below behind steps " + j, x.order(1, j), below[j]);
        }
    }
}

/** Promises 6 and 18 to 22 on all orders of a few SPANS, answered by the program and by PlainBench. */
public final class EachOrderTest {
    private static SpanBench x;
    private static PlainBench plain;

    public static void main(String[] args) {
        for (int n = 2; n <= 4; n++) {
            eachOrder(n, new int[n], 0, 3);
        }
        for (int n = 5; n <= 6; n++) {
            eachOrder(n, new int[n], 0, 1);
        }
        smallLoops();
        Due.end();
    }

    private static void eachOrder(int n, int[] line, int told, int mostLength) {
        if (told == n) {
            int order = 0;
            for (int j = 0; j < n; j++) {
                order |= line[j] << (4 * j);
            }
            eachLength(n, order, mostLength);
            return;
        }
        for (int k = 0; k < n; k++) {
            boolean isNew = true;
            for (int j = 0; j < told; j++) {
                isNew &= line[j] != k;
            }
            if (isNew) {
                line[told] = k;
                eachOrder(n, line, told + 1, mostLength);
            }
        }
    }

    private static void eachLength(int n, int order, int mostLength) {
        int all = 1;
        for (int k = 0; k < n; k++) {
            all *= mostLength;
        }
        for (int i = 0; i < all; i++) {
            x = new SpanBench();
            plain = new PlainBench();
            int rest = i;
            for (int k = 0; k < n; k++) {
                layLength(k, 1 + rest % mostLength, 0);
                rest /= mostLength;
            }
            layOrder(n, order);
            look(n, order, i == 0);
        }
    }

    private static void layLength(int k, int a, int b) {
        Due.is("length", x.length(k, a, b), plain.length(k, a, b));
    }

    private static void layOrder(int n, int order) {
        Due.is("below", x.below(n, order), plain.below(n, order));
        Due.is("lay", x.lay(), plain.lay());
    }

    private static void look(int n, int order, boolean isFirst) {
        String name = "order " + Integer.toHexString(order) + " of " + n + ": ";
        Due.is(name + "parted", x.of(2), plain.of(2));
        Due.is(name + "rounds", x.rounds(), plain.rounds());
        for (int k = 0; k < n; k++) {
            for (int what = 0; what < 3; what++) {
                Due.is(name + "round", x.round(k, what), plain.round(k, what));
            }
        }
        for (int m = 1; m <= 10; m++) {
            Due.is(name + "words", x.words(m), plain.words(m));
        }
        if (isFirst) {
            Due.is(name + "classes", x.classes(), plain.classes());
            for (int what = 0; what < 4; what++) {
                Due.is(name + "ground", x.ground(what), plain.ground(what));
            }
        }
    }

    private static void smallLoops() {
        int[] roots = {2, 3, 5, 7};
        int[] orders = {0x01, 0x012, 0x0123, 0x0132, 0x1032};
        int[] sizes = {2, 3, 4, 4, 4};
        int loops = 0;
        for (int i = 0; i < 6000; i++) {
            x = new SpanBench();
            plain = new PlainBench();
            int root = roots[i % 4];
            Due.is("root", x.root(root), plain.root(root));
            int which = i / 4 % 5;
            for (int k = 0; k < sizes[which]; k++) {
                // Numbers from a row that never turns in step with i.
                int mixed = Math.floorMod(i * 7919 + k * 104729 + (i >> 3) * 31 * k, 49);
                layLength(k, 1, 0);
                layLength(k, mixed % 7 - 2, mixed / 7 - 2);
            }
            layOrder(sizes[which], orders[which]);
            int loop = x.loop();
            Due.is("loop of run " + i, loop, plain.loop());
            loops += loop > 0 ? 1 : 0;
        }
        Due.is("there were loops enough", loops > 100, true);
    }
}

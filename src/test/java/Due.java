/** Counts the answers that are not as due, and ends a test with exit code 1 if there are some. */
final class Due {
    private static int asked = 0;
    private static int wrong = 0;

    private Due() {
    }

    static void is(String call, long got, long want) {
        asked++;
        if (got != want) {
            wrong++;
            if (wrong <= 50) {
                System.out.println(call + " answered " + got + ", due is " + want);
            }
        }
    }

    static void is(String call, boolean got, boolean want) {
        is(call, got ? 1L : 0L, want ? 1L : 0L);
    }

    static int wrongSoFar() {
        return wrong;
    }

    static void end() {
        System.out.println(asked + " answers, " + wrong + " not as due");
        if (wrong != 0 || asked == 0) {
            System.exit(1);
        }
    }

    /** A bench with a MOVER of whole LENGTHS; order is packed as below(n, order) takes it. */
    static SpanBench laid(int order, int... lengths) {
        SpanBench x = new SpanBench();
        for (int k = 0; k < lengths.length; k++) {
            is("length", x.length(k, lengths[k], 0), true);
        }
        is("below", x.below(lengths.length, order), true);
        is("lay", x.lay(), lengths.length);
        return x;
    }

    /** A bench with a MOVER of LENGTHS that are sums with a root: a and b of each in turn. */
    static SpanBench laidWithRoot(int r, int order, int... parts) {
        SpanBench x = new SpanBench();
        is("root", x.root(r), true);
        for (int k = 0; k < parts.length / 2; k++) {
            is("length", x.length(k, parts[2 * k], parts[2 * k + 1]), true);
        }
        is("below", x.below(parts.length / 2, order), true);
        is("lay", x.lay(), parts.length / 2);
        return x;
    }
}

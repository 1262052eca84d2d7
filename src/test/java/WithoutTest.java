/** What is answered without a MOVER, without a POINT, and before any order, LENGTH or round was told. */
public final class WithoutTest {
    private static final long NOWHERE = -9000000000000000000L;

    public static void main(String[] args) {
        withoutAMover();
        withoutAPoint();
        withoutAnOrder();
        withoutALength();
        withoutRounds();
        Due.end();
    }

    private static void withoutAMover() {
        noMover("new", new SpanBench());

        SpanBench refusedRoot = new SpanBench();
        Due.is("root 4", refusedRoot.root(4), false);
        noMover("a refused root", refusedRoot);

        SpanBench order = new SpanBench();
        Due.is("below", order.below(2, 0x01), true);
        noMover("an order alone", order);
        Due.is("lay", order.lay(), -2);
        noMover("a lay without lengths", order);

        SpanBench lengths = new SpanBench();
        Due.is("length", lengths.length(0, 3, 0), true);
        Due.is("length", lengths.length(1, 5, 0), true);
        noMover("lengths alone", lengths);
        Due.is("lay", lengths.lay(), -1);
        noMover("a lay without an order", lengths);
        Due.is("below", lengths.below(2, 0x01), true);
        noMover("a sheet that was not laid", lengths);

        for (int r : new int[] {0, 2, 3, 5, 7}) {
            SpanBench gone = Due.laid(0x01, 3, 5);
            Due.is("point", gone.point(4, 0), 1);
            Due.is("step", gone.step(), 1);
            Due.is("root " + r, gone.root(r), true);
            noMover("root " + r + " took the mover", gone);
        }

        SpanBench eight = Due.laid(0x01234567, 1, 2, 3, 4, 5, 6, 7, 8);
        Due.is("root", eight.root(0), true);
        noMover("root took eight spans", eight);
        SpanBench roots = Due.laidWithRoot(7, 0x01, 3, 0, 0, 1);
        Due.is("point", roots.point(0, 1), 0);
        Due.is("root", roots.root(7), true);
        noMover("the same root again", roots);
    }

    private static void noMover(String name, SpanBench x) {
        for (int what = -1; what <= 4; what++) {
            Due.is(name + ": of " + what, x.of(what), -1);
            Due.is(name + ": ground " + what, x.ground(what), -1);
        }
        for (int k = -1; k <= 9; k++) {
            Due.is(name + ": a of " + k, x.spans(k, 0), 0);
            Due.is(name + ": b of " + k, x.spans(k, 1), 0);
            Due.is(name + ": above " + k, x.order(0, k), -1);
            Due.is(name + ": below " + k, x.order(1, k), -1);
            Due.is(name + ": table " + k, x.table(k, k), -1);
        }
        Due.is(name + ": point 0", x.point(0, 0), -1);
        Due.is(name + ": point 1", x.point(1, 0), -1);
        Due.is(name + ": step", x.step(), -1);
        Due.is(name + ": steps", x.steps(1), -1);
        Due.is(name + ": most steps", x.steps(1000), -1);
        Due.is(name + ": steps that can't be", x.steps(0), -1);
        Due.is(name + ": loop", x.loop(), -1);
        Due.is(name + ": rounds", x.rounds(), -1);
        Due.is(name + ": words", x.words(1), -1);
        Due.is(name + ": words, m 0", x.words(0), -1);
        Due.is(name + ": words, m 11", x.words(11), -1);
        Due.is(name + ": classes", x.classes(), -1);
        noPoint(name, x);
    }

    private static void noPoint(String name, SpanBench x) {
        for (int n : new int[] {-1001, -1000, -1, 0, 1, 1000, 1001}) {
            Due.is(name + ": move " + n, x.move(n), -1);
        }
        for (int what = -1; what <= 2; what++) {
            Due.is(name + ": where " + what, x.where(what), NOWHERE);
        }
        Due.is(name + ": back below 1", x.back(1, 0), -1);
        Due.is(name + ": back below 0", x.back(0, 0), -1);
        Due.is(name + ": back below the greatest number", x.back(1 << 29, 0), -1);
        Due.is(name + ": visits, 1 place", x.visits(0, 1), -1);
        Due.is(name + ": visits, 1000 places", x.visits(1, 1000), -1);
        Due.is(name + ": visits, no place", x.visits(0, 0), -1);
    }

    private static void withoutAPoint() {
        SpanBench laid = Due.laid(0x01, 3, 5);
        noPoint("laid", laid);
        Due.is("off the line", laid.point(8, 0), -1);
        noPoint("a refused point alone", laid);

        SpanBench again = Due.laid(0x01, 3, 5);
        Due.is("point", again.point(0, 0), 0);
        Due.is("lay", again.lay(), 2);
        noPoint("lay takes a point that would be on the line", again);

        SpanBench step = Due.laid(0x01, 3, 5);
        Due.is("point", step.point(5, 0), 1);
        Due.is("step", step.step(), 1);
        noPoint("a step took it", step);
        SpanBench steps = Due.laid(0x01, 3, 5);
        Due.is("point", steps.point(2, 0), 0);
        Due.is("steps", steps.steps(1000), 3);
        noPoint("steps took it", steps);

        SpanBench root = Due.laid(0x01, 3, 5);
        Due.is("point", root.point(0, 0), 0);
        Due.is("root", root.root(0), true);
        noPoint("root took it", root);
        Due.is("length", root.length(0, 3, 0), true);
        Due.is("length", root.length(1, 5, 0), true);
        Due.is("below", root.below(2, 0x01), true);
        Due.is("lay", root.lay(), 2);
        noPoint("root took it, and another mover is laid", root);
    }

    private static void withoutAnOrder() {
        SpanBench x = new SpanBench();
        Due.is("nothing told", x.lay(), -1);
        for (int k = 0; k < 8; k++) {
            Due.is("length", x.length(k, 1, 0), true);
            Due.is("no order, lengths up to " + k, x.lay(), -1);
        }
        Due.is("refused order", x.below(2, 0x11), false);
        Due.is("a refused order is none", x.lay(), -1);
        Due.is("refused order", x.below(9, 0x76543210), false);
        Due.is("a refused order is none, n 9", x.lay(), -1);
        Due.is("order", x.below(2, 0x10), true);
        Due.is("as above is an order too", x.lay(), 2);
        Due.is("root", x.root(0), true);
        Due.is("root took the order, and lengths", x.lay(), -1);
    }

    private static void withoutALength() {
        for (int n = 2; n <= 8; n++) {
            SpanBench x = new SpanBench();
            Due.is("below", x.below(n, 0x76543210), true);
            for (int k = 0; k < n; k++) {
                Due.is("of " + n + " spans, " + k + " have a length", x.lay(), -2);
                Due.is("refused", x.length(k, 0, 0), false);
                Due.is("a refused length is none", x.lay(), -2);
                Due.is("length", x.length(k, 1, 0), true);
            }
            Due.is("all have one", x.lay(), n);
        }
        rootTakesLengths(2, 5, 0, 3);
        rootTakesLengths(0, 2, 4, 0);
        rootTakesLengths(3, 3, -1, 1);
    }

    private static void rootTakesLengths(int before, int behind, int a, int b) {
        for (int kept = 0; kept < 2; kept++) {
            SpanBench x = new SpanBench();
            Due.is("root", x.root(before), true);
            Due.is("length", x.length(0, a, b), true);
            Due.is("length", x.length(1, a, b), true);
            Due.is("root", x.root(behind), true);
            Due.is("below", x.below(2, 0x01), true);
            Due.is("root took both lengths", x.lay(), -2);
            Due.is("length", x.length(kept, 1, 0), true);
            Due.is("root took the other one", x.lay(), -2);
        }
    }

    private static void withoutRounds() {
        noRounds("new", new SpanBench());
        SpanBench laid = Due.laid(0x01, 3, 5);
        noRounds("laid", laid);
        SpanBench root = Due.laidWithRoot(2, 0x01, 3, 0, 5, 0);
        Due.is("refused by root", root.rounds(), -2);
        noRounds("refused by root", root);
        SpanBench total = Due.laid(0x01, 1000, 1001);
        Due.is("refused by total", total.rounds(), -2);
        noRounds("refused by total", total);
    }

    private static void noRounds(String name, SpanBench x) {
        for (int k = -1; k <= 8; k++) {
            for (int what = -1; what <= 3; what++) {
                Due.is(name + ": round " + k + " " + what, x.round(k, what), -1);
            }
        }
    }
}

import java.util.function.Supplier;
import java.util.function.ToLongFunction;

/**
 * A refused call, or one that only asks, leaves SHEET, MOVER, POINT, THE TABLE and the latest rounds as they were. Each
 * is made on one of two benches with the same calls behind them; then both must look alike, now and laid again.
 */
public final class RefusedTest {
    private static final long NOWHERE = -9000000000000000000L;
    private static final int REACH = 1 << 29;

    public static void main(String[] args) {
        refusedWithoutAMover("new", SpanBench::new, -1);
        refusedWithoutAMover("an order alone", RefusedTest::orderAlone, -2);
        refusedWithoutAMover("lengths alone", RefusedTest::lengthsAlone, -1);
        refusedWithoutAMover("root took all", RefusedTest::rootTookAll, -1);
        refusedWithAMover("laid", RefusedTest::laidAlone);
        refusedWithAMover("used", RefusedTest::used);
        refusedWithAMover("eight", RefusedTest::eight);
        refusedWithAMover("far", RefusedTest::far);
        refusedWithoutAPoint();
        refusedByTheSheet();
        refusedByTheMover();
        refusedByTheBounds();
        askedAlone("laid", RefusedTest::laidAlone);
        askedAlone("used", RefusedTest::used);
        askedAlone("eight", RefusedTest::eight);
        askedAlone("far", RefusedTest::far);
        Due.end();
    }

    // ---- benches; those with the same calls behind them are made by the same method

    private static SpanBench orderAlone() {
        SpanBench x = new SpanBench();
        Due.is("below", x.below(3, 0x012), true);
        return x;
    }

    private static SpanBench lengthsAlone() {
        SpanBench x = new SpanBench();
        for (int k = 0; k < 8; k++) {
            Due.is("length", x.length(k, 10 + k, 0), true);
        }
        return x;
    }

    private static SpanBench rootTookAll() {
        SpanBench x = used();
        Due.is("root", x.root(3), true);
        return x;
    }

    private static SpanBench laidAlone() {
        return Due.laid(0x012, 20, 30, 41);
    }

    /** A POINT, STEPS and rounds, and a SHEET that is another one than THE MOVER was laid from. */
    private static SpanBench used() {
        SpanBench x = Due.laid(0x0123, 110, 70, 50, 171);
        Due.is("steps", x.steps(3), 3);
        Due.is("point", x.point(45, 0), 0);
        Due.is("rounds", x.rounds() > 0, true);
        Due.is("step", x.step() >= 0, true);
        for (int k = 0; k < 8; k++) {
            Due.is("length", x.length(k, 10 + k, 0), true);
        }
        Due.is("below", x.below(8, 0x01234567), true);
        Due.is("the point is there", x.where(0), 45);
        return x;
    }

    /** Eight SPANS, and a TOTAL of which no rounds are told, with the rounds of a former MOVER. */
    private static SpanBench eight() {
        SpanBench x = Due.laid(0x021, 3, 4, 5);
        Due.is("rounds", x.rounds() > 0, true);
        for (int k = 0; k < 8; k++) {
            Due.is("length", x.length(k, 300 + 17 * k * k, 0), true);
        }
        Due.is("below", x.below(8, 0x01234567), true);
        Due.is("lay", x.lay(), 8);
        Due.is("steps", x.steps(2), 2);
        Due.is("point", x.point(1000, 0) >= 0, true);
        return x;
    }

    /** A POINT at the bound for a, and rounds of a time when ROOT was 0. */
    private static SpanBench far() {
        SpanBench x = Due.laid(0x012, 3, 5, 3);
        Due.is("rounds", x.rounds(), 2);
        Due.is("root", x.root(2), true);
        Due.is("length", x.length(0, 2, 0), true);
        Due.is("length", x.length(1, 1, 1), true);
        Due.is("below", x.below(2, 0x01), true);
        Due.is("lay", x.lay(), 2);
        Due.is("point", x.point(REACH, -379625062), 0);
        return x;
    }

    /** The last SPANS are alike. */
    private static SpanBench tied() {
        SpanBench x = Due.laid(0x012, 20, 30, 40);
        Due.is("steps", x.steps(1000), 4);
        Due.is("point", x.point(15, 0) >= 0, true);
        Due.is("rounds", x.rounds() > 0, true);
        return x;
    }

    /** The last SPANS are the same one. */
    private static SpanBench fixed() {
        SpanBench x = Due.laid(0x201, 20, 30, 40);
        Due.is("point", x.point(15, 0) >= 0, true);
        Due.is("rounds", x.rounds() > 0, true);
        return x;
    }

    /** The next STEP would bring b to 16385. */
    private static SpanBench spent() {
        SpanBench x = Due.laid(0x012, 3, 5, 3);
        Due.is("rounds", x.rounds(), 2);
        Due.is("root", x.root(2), true);
        Due.is("length", x.length(0, 2, -1), true);
        Due.is("length", x.length(1, 1, 16383), true);
        Due.is("below", x.below(2, 0x01), true);
        Due.is("lay", x.lay(), 2);
        Due.is("step", x.step(), 1);
        // TOTAL is 1 + 16383 root 2. The point is less by 0.17, and would go if TOTAL became less by 0.59 once more.
        Due.is("point", x.point(-2, 16385), 1);
        return x;
    }

    // ---- refused calls

    private static void stays(String name, Supplier<SpanBench> maker, ToLongFunction<SpanBench> call, long due) {
        SpanBench x = maker.get();
        SpanBench twin = maker.get();
        Due.is(name, call.applyAsLong(x), due);
        Look.same(name, x, twin);
        Due.is(name + ": lay", x.lay(), twin.lay());
        Look.same(name + ", laid again", x, twin);
        sameRoot(name, x, twin);
    }

    /** What is above 0 tells each ROOT from the others; it changes both SHEETS, so it comes last. */
    private static void sameRoot(String name, SpanBench x, SpanBench twin) {
        int[][] numbers = {{0, 1}, {-3, 2}, {-4, 2}, {-5, 2}};
        for (int[] number : numbers) {
            Due.is(name + ": root", x.length(0, number[0], number[1]), twin.length(0, number[0], number[1]));
        }
    }

    private static long one(boolean answer) {
        return answer ? 1L : 0L;
    }

    /** What no state takes. */
    private static void refusedAlways(String name, Supplier<SpanBench> maker) {
        for (int r : new int[] {-1, 1, 4, 6, 8, Integer.MIN_VALUE, Integer.MAX_VALUE}) {
            stays(name + ": root " + r, maker, x -> one(x.root(r)), 0);
        }
        int[][] lengths = {
            {-1, 1, 0}, {8, 1, 0}, {0, 0, 0}, {7, -1, 0}, {0, 16385, 0}, {1, -16385, 16384}, {1, 0, 16385},
            {2, 16384, -16385}, {3, 0, -1}, {0, Integer.MIN_VALUE, 0}, {0, 1, Integer.MAX_VALUE}
        };
        for (int[] told : lengths) {
            stays(name + ": length " + told[0] + " " + told[1] + " " + told[2], maker,
                    x -> one(x.length(told[0], told[1], told[2])), 0);
        }
        int[][] orders = {
            {1, 0x0}, {9, 0x76543210}, {0, 0}, {-1, 0x10}, {2, 0x00}, {2, 0x11}, {2, 0x20}, {3, 0x310}, {3, 0x110},
            {8, 0x76543211}, {8, 0x86543210}, {8, 0xF6543210}, {Integer.MIN_VALUE, 0x10}, {Integer.MAX_VALUE, 0x10}
        };
        for (int[] told : orders) {
            stays(name + ": below " + told[0] + " " + Integer.toHexString(told[1]), maker,
                    x -> one(x.below(told[0], told[1])), 0);
        }
        refusedQuestions(name, maker);
    }

    private static void refusedQuestions(String name, Supplier<SpanBench> maker) {
        for (int wrong : new int[] {-1, 9, Integer.MIN_VALUE, Integer.MAX_VALUE}) {
            stays(name + ": of " + wrong, maker, x -> x.of(wrong), -1);
            stays(name + ": spans " + wrong, maker, x -> x.spans(wrong, 0), 0);
            stays(name + ": spans, what " + wrong, maker, x -> x.spans(0, wrong), 0);
            stays(name + ": order " + wrong, maker, x -> x.order(wrong, 0), -1);
            stays(name + ": order, j " + wrong, maker, x -> x.order(1, wrong), -1);
            stays(name + ": where " + wrong, maker, x -> x.where(wrong), NOWHERE);
            stays(name + ": table " + wrong, maker, x -> x.table(wrong, 0), -1);
            stays(name + ": table, j " + wrong, maker, x -> x.table(0, wrong), -1);
            stays(name + ": round " + wrong, maker, x -> x.round(wrong, 0), -1);
            stays(name + ": round, what " + wrong, maker, x -> x.round(0, wrong), -1);
            stays(name + ": ground " + wrong, maker, x -> x.ground(wrong), -1);
            stays(name + ": visits " + wrong, maker, x -> x.visits(wrong, 1), -1);
        }
        for (int wrong : new int[] {-1001, 1001, Integer.MIN_VALUE, Integer.MAX_VALUE}) {
            stays(name + ": move " + wrong, maker, x -> x.move(wrong), -1);
            stays(name + ": visits, n " + wrong, maker, x -> x.visits(0, wrong), -1);
            stays(name + ": steps " + wrong, maker, x -> x.steps(wrong), -1);
        }
        stays(name + ": visits, n 0", maker, x -> x.visits(0, 0), -1);
        stays(name + ": steps 0", maker, x -> x.steps(0), -1);
        int[][] numbers = {
            {0, 0}, {-1, 0}, {0, -1}, {REACH + 1, 0}, {-REACH - 1, REACH}, {0, REACH + 1}, {REACH, -REACH - 1},
            {Integer.MAX_VALUE, 0}, {Integer.MIN_VALUE, 0}, {0, Integer.MAX_VALUE}, {0, Integer.MIN_VALUE}
        };
        for (int[] told : numbers) {
            stays(name + ": back " + told[0] + " " + told[1], maker, x -> x.back(told[0], told[1]), -1);
            if (told[0] != 0 || told[1] != 0) {
                stays(name + ": point " + told[0] + " " + told[1], maker, x -> x.point(told[0], told[1]), -1);
            }
        }
    }

    private static void refusedWithoutAMover(String name, Supplier<SpanBench> maker, long layDue) {
        refusedAlways(name, maker);
        stays(name + ": lay", maker, x -> x.lay(), layDue);
        stays(name + ": point", maker, x -> x.point(0, 0), -1);
        stays(name + ": move", maker, x -> x.move(0), -1);
        stays(name + ": back", maker, x -> x.back(1, 0), -1);
        stays(name + ": visits", maker, x -> x.visits(0, 1), -1);
        stays(name + ": step", maker, x -> x.step(), -1);
        stays(name + ": steps", maker, x -> x.steps(1), -1);
        stays(name + ": loop", maker, x -> x.loop(), -1);
        stays(name + ": rounds", maker, x -> x.rounds(), -1);
        stays(name + ": words", maker, x -> x.words(1), -1);
        stays(name + ": words, m 0", maker, x -> x.words(0), -1);
        stays(name + ": classes", maker, x -> x.classes(), -1);
        stays(name + ": ground", maker, x -> x.ground(0), -1);
    }

    private static void refusedWithAMover(String name, Supplier<SpanBench> maker) {
        refusedAlways(name, maker);
        for (int m : new int[] {-1, 0, 11, Integer.MIN_VALUE, Integer.MAX_VALUE}) {
            stays(name + ": words " + m, maker, x -> x.words(m), -2);
        }
        SpanBench asked = maker.get();
        int n = asked.of(0);
        int endA = (int) asked.spans(n, 0);
        int endB = (int) asked.spans(n, 1);
        stays(name + ": point at the end", maker, x -> x.point(endA, endB), -1);
        stays(name + ": point left of the line", maker, x -> x.point(-1, 0), -1);
        stays(name + ": order n", maker, x -> x.order(0, n), -1);
        stays(name + ": spans behind total", maker, x -> x.spans(n + 1, 0), 0);
        stays(name + ": table n", maker, x -> x.table(n, n), -1);
        stays(name + ": visits n", maker, x -> x.visits(n, 1), -1);
    }

    private static void refusedWithoutAPoint() {
        Supplier<SpanBench> maker = RefusedTest::laidAlone;
        for (int n : new int[] {-1000, -1, 0, 1, 1000}) {
            stays("no point: move " + n, maker, x -> x.move(n), -1);
        }
        stays("no point: back", maker, x -> x.back(1, 0), -1);
        stays("no point: visits", maker, x -> x.visits(0, 1), -1);
        stays("no point: visits of 1000", maker, x -> x.visits(2, 1000), -1);
        stays("no rounds: round", maker, x -> x.round(0, 0), -1);
        stays("root 0: length with b", maker, x -> one(x.length(0, 5, 1)), 0);
        stays("root 0: point with b", maker, x -> x.point(5, 1), -1);
        stays("root 0, point: length with b", RefusedTest::used, x -> one(x.length(0, 5, -1)), 0);
        stays("root 0, point: point with b", RefusedTest::used, x -> x.point(5, -1), -1);
        stays("root 0, point: back with b", RefusedTest::used, x -> x.back(5, 1), -1);
    }

    /** lay() is refused while there is a MOVER: that one stays, with its POINT. */
    private static void refusedByTheSheet() {
        Supplier<SpanBench> maker = () -> {
            SpanBench x = Due.laid(0x01, 30, 50);
            Due.is("rounds", x.rounds(), 1);
            Due.is("step", x.step(), 1);
            Due.is("point", x.point(40, 0), 1);
            Due.is("below", x.below(3, 0x012), true);
            return x;
        };
        stays("a span without a length", maker, x -> x.lay(), -2);
        SpanBench x = maker.get();
        Due.is("lay", x.lay(), -2);
        Due.is("the point stays", x.where(0), 40);
        Due.is("the step stays", x.of(1), 1);
        Due.is("the order of the sheet stays", x.length(2, 1, 0), true);
        Due.is("and is laid", x.lay(), 3);
        Due.is("the point goes", x.where(0), NOWHERE);
    }

    private static void refusedByTheMover() {
        stays("a tie", RefusedTest::tied, x -> x.step(), -3);
        stays("a tie, steps", RefusedTest::tied, x -> x.steps(1000), 0);
        stays("a tie, loop", RefusedTest::tied, x -> x.loop(), 0);
        stays("the same one", RefusedTest::fixed, x -> x.step(), -2);
        stays("the same one, steps", RefusedTest::fixed, x -> x.steps(1), 0);
        stays("the same one, loop", RefusedTest::fixed, x -> x.loop(), 0);
        stays("spent", RefusedTest::spent, x -> x.step(), -4);
        stays("spent, steps", RefusedTest::spent, x -> x.steps(1000), 0);
        stays("spent, loop", RefusedTest::spent, x -> x.loop(), 0);
        stays("rounds, by total", RefusedTest::eight, x -> x.rounds(), -2);
        stays("classes of eight", RefusedTest::eight, x -> x.classes(), -2);
        stays("rounds, by root", RefusedTest::far, x -> x.rounds(), -2);
        stays("rounds, by root, though spent", RefusedTest::spent, x -> x.rounds(), -2);
    }

    private static void refusedByTheBounds() {
        for (int n : new int[] {1, 2, 1000, -1, -2, -1000}) {
            stays("beyond: move " + n, RefusedTest::far, x -> x.move(n), -1);
        }
        stays("beyond: back", RefusedTest::far, x -> x.back(1, 0), -2);
        stays("beyond: back, though below", RefusedTest::far, x -> x.back(REACH, REACH), -2);
        stays("beyond: visits", RefusedTest::far, x -> x.visits(0, 2), -1);
        stays("not within a thousand", RefusedTest::fixed, x -> {
            Due.is("point", x.point(65, 0), 2);
            long answer = x.back(65, 0);
            Due.is("it is where it was", x.where(0), 65);
            Due.is("point", x.point(15, 0), 0);
            return answer;
        }, -2);
    }

    /** Calls that are answered, but change nothing. */
    private static void askedAlone(String name, Supplier<SpanBench> maker) {
        SpanBench asked = maker.get();
        int m = 10;
        long words = asked.words(m);
        long classes = asked.classes();
        long loop = asked.loop();
        long visits = asked.visits(0, 1);
        stays(name + ": words", maker, x -> x.words(m), words);
        stays(name + ": classes", maker, x -> x.classes(), classes);
        stays(name + ": loop", maker, x -> x.loop(), loop);
        stays(name + ": visits", maker, x -> x.visits(0, 1), visits);
        stays(name + ": move 0", maker, x -> x.move(0), asked.move(0));
        for (int what = 0; what < 4; what++) {
            int each = what;
            stays(name + ": ground " + what, maker, x -> x.ground(each), asked.ground(each));
            stays(name + ": of " + what, maker, x -> x.of(each), asked.of(each));
        }
    }
}

/** A bench for movers: lines that are cut into spans and laid down again in another order. */
public final class SpanBench {
    public static final int NONE = -1;

    private static final long NOWHERE = -9000000000000000000L;

    private static final int NO_MOVER = -1;
    private static final int NO_ORDER = -1;
    private static final int NO_LENGTH = -2;
    private static final int NOT_BACK = -2;
    private static final int CAN_NOT_BE = -2;
    private static final int TIE = -3;
    private static final int SPENT = -4;
    private static final int U_WON = 1;
    private static final int V_WON = 0;

    private static final int LEAST_SPANS = 2;
    private static final int MOST_SPANS = 8;
    private static final int MOST_OF_LENGTH = 16384;
    private static final int MOST_OF_POINT = 1 << 29;
    private static final long MOST_OF_TABLE = 1L << 40;
    private static final int MOST_MOVES = 1000;
    private static final int MOST_STEPS = 1000;
    private static final int MOST_OF_LOOP = 300;
    private static final int MOST_PIECES = 2000;
    private static final int MOST_OF_WORD = 10;
    private static final int MOST_SPANS_OF_CLASS = 6;
    private static final int ORDERS_OF_SIX = 720;

    private int rootNow;
    private final Sheet sheet;
    private final Mover mover;
    private final Mover trial;
    private final Way forwards;
    private final Way backwards;
    private final Spot spot;
    private final Spot walker;
    private final Heaps heaps;
    private final Kin kin;
    private final Figure figure;

    public SpanBench() {
        rootNow = 0;
        sheet = new Sheet();
        mover = new Mover();
        trial = new Mover();
        forwards = new Way();
        backwards = new Way();
        spot = new Spot();
        walker = new Spot();
        heaps = new Heaps();
        kin = new Kin();
        figure = new Figure();
    }

    public boolean root(int r) {
        if (r != 0 && r != 2 && r != 3 && r != 5 && r != 7) {
            return false;
        }
        rootNow = r;
        sheet.clear();
        mover.count = 0;
        spot.there = false;
        return true;
    }

    public boolean length(int k, int a, int b) {
        if (k < 0 || k >= MOST_SPANS || !canBe(a, b, MOST_OF_LENGTH) || signOf(a, b, rootNow) <= 0) {
            return false;
        }
        sheet.partA[k] = a;
        sheet.partB[k] = b;
        return true;
    }

    public boolean below(int n, int order) {
        return sheet.takeOrder(n, order);
    }

    public int lay() {
        if (sheet.count == 0) {
            return NO_ORDER;
        }
        if (!sheet.hasAllLengths()) {
            return NO_LENGTH;
        }
        mover.layFrom(sheet, rootNow);
        drawWays();
        spot.there = false;
        return mover.count;
    }

    public int of(int what) {
        if (mover.count == 0) {
            return NONE;
        }
        switch (what) {
            case 0:
                return mover.count;
            case 1:
                return mover.stepsDone;
            case 2:
                return mover.partedAt();
            case 3:
                return mover.stepsOfU;
            default:
                return NONE;
        }
    }

    public long spans(int k, int what) {
        if (k < 0 || k > mover.count || mover.count == 0 || what < 0 || what > 1) {
            return 0L;
        }
        if (k == mover.count) {
            return what == 0 ? forwards.edgeA[k] : forwards.edgeB[k];
        }
        return what == 0 ? mover.partA[k] : mover.partB[k];
    }

    public int order(int where, int j) {
        if (where < 0 || where > 1 || j < 0 || j >= mover.count) {
            return NONE;
        }
        return where == 0 ? mover.above[j] : mover.under[j];
    }

    // ---- points

    public int point(int a, int b) {
        if (mover.count == 0 || !canBe(a, b, MOST_OF_POINT) || !forwards.covers(a, b)) {
            return NONE;
        }
        spot.put(a, b);
        return forwards.spanAt(spot);
    }

    public int move(int n) {
        if (!spot.there || n < -MOST_MOVES || n > MOST_MOVES) {
            return NONE;
        }
        Way way = n < 0 ? backwards : forwards;
        int moves = n < 0 ? -n : n;
        walker.put(spot.a, spot.b);
        for (int i = 0; i < moves; i++) {
            if (!way.carry(walker)) {
                return NONE;
            }
        }
        spot.put(walker.a, walker.b);
        return forwards.spanAt(spot);
    }

    public long where(int what) {
        if (!spot.there || what < 0 || what > 1) {
            return NOWHERE;
        }
        return what == 0 ? spot.a : spot.b;
    }

    public int back(int a, int b) {
        if (!spot.there || !canBe(a, b, MOST_OF_POINT) || signOf(a, b, rootNow) <= 0) {
            return NONE;
        }
        walker.put(spot.a, spot.b);
        for (int moves = 1; moves <= MOST_MOVES; moves++) {
            if (!forwards.carry(walker)) {
                return NOT_BACK;
            }
            if (signOf(walker.a - a, walker.b - b, rootNow) < 0) {
                spot.put(walker.a, walker.b);
                return moves;
            }
        }
        return NOT_BACK;
    }

    public int visits(int k, int n) {
        if (!spot.there || k < 0 || k >= mover.count || n < 1 || n > MOST_MOVES) {
            return NONE;
        }
        int times = 0;
        walker.put(spot.a, spot.b);
        for (int place = 1; place <= n; place++) {
            int span = forwards.spanAt(walker);
            if (span == k) {
                times++;
            }
            // The MOVE away from the last place is not asked for, so it may not refuse.
            if (place < n && !forwards.shift(walker, span)) {
                return NONE;
            }
        }
        return times;
    }

    // ---- steps

    public int step() {
        int answer = mover.advance();
        if (answer >= 0) {
            followMover();
        }
        return answer;
    }

    public int steps(int n) {
        if (mover.count == 0 || n < 1 || n > MOST_STEPS) {
            return NONE;
        }
        int done = 0;
        while (done < n && mover.advance() >= 0) {
            done++;
        }
        followMover();
        return done;
    }

    public long table(int i, int j) {
        if (i < 0 || i >= mover.count || j < 0 || j >= mover.count) {
            return NONE;
        }
        return mover.sums[i * MOST_SPANS + j];
    }

    public int loop() {
        if (mover.count == 0) {
            return NONE;
        }
        trial.copyFrom(mover);
        for (int m = 1; m <= MOST_OF_LOOP; m++) {
            if (trial.advance() < 0) {
                return 0;
            }
            if (trial.hasOrdersOf(mover) && trial.hasSharesOf(mover)) {
                return m;
            }
        }
        return 0;
    }

    // ---- rounds, words, classes, grounds

    public int rounds() {
        if (mover.count == 0) {
            return NO_MOVER;
        }
        long total = forwards.edgeA[mover.count];
        if (rootNow != 0 || total > MOST_PIECES) {
            return CAN_NOT_BE;
        }
        heaps.tell(forwards, (int) total);
        return heaps.count;
    }

    public int round(int k, int what) {
        if (k < 0 || k >= heaps.count) {
            return NONE;
        }
        switch (what) {
            case 0:
                return heaps.width[k];
            case 1:
                return heaps.times[k];
            case 2:
                return heaps.least[k];
            default:
                return NONE;
        }
    }

    public int words(int m) {
        if (mover.count == 0) {
            return NO_MOVER;
        }
        if (m < 1 || m > MOST_OF_WORD) {
            return CAN_NOT_BE;
        }
        // Points of one WORD fill one stretch, and it begins where some MOVE first meets the left
        // end of a SPAN: so the beginnings are counted, each from the left end that it meets first.
        int words = 0;
        for (int j = 0; j < mover.count; j++) {
            words += beginningsBehind(j, m);
        }
        return words;
    }

    public int classes() {
        if (mover.count == 0) {
            return NO_MOVER;
        }
        if (mover.count > MOST_SPANS_OF_CLASS) {
            return CAN_NOT_BE;
        }
        return kin.countFrom(mover);
    }

    public int ground(int what) {
        if (mover.count == 0 || what < 0 || what > 3) {
            return NONE;
        }
        figure.glue(mover);
        switch (what) {
            case 0:
                return figure.points();
            case 1:
                return (1 + mover.count - figure.points()) / 2;
            case 2:
                return figure.mostTurns();
            default:
                return figure.pointsWithOneTurn();
        }
    }

    private boolean canBe(int a, int b, int most) {
        return isWithin(a, most) && isWithin(b, most) && (rootNow != 0 || b == 0);
    }

    private void drawWays() {
        forwards.draw(mover, mover.above, mover.under);
        backwards.draw(mover, mover.under, mover.above);
    }

    private void followMover() {
        drawWays();
        spot.there = spot.there && forwards.covers(spot.a, spot.b);
    }

    private int beginningsBehind(int j, int most) {
        walker.put(forwards.edgeA[j], forwards.edgeB[j]);
        for (int found = 1; found < most; found++) {
            // Behind another left end all beginnings are counted from that one.
            if (!backwards.carry(walker) || forwards.isLeftEnd(walker)) {
                return found;
            }
        }
        return most;
    }

    private static boolean isWithin(long part, int most) {
        return part >= -most && part <= most;
    }

    /** Exact: no part that is compared goes beyond 2 to the 30, so 7 times its square fits in a long. */
    private static int signOf(long a, long b, int root) {
        int signA = a > 0 ? 1 : a < 0 ? -1 : 0;
        if (root == 0 || b == 0) {
            return signA;
        }
        int signB = b > 0 ? 1 : -1;
        if (signA == 0 || signA == signB) {
            return signB;
        }
        // Of two parts with unlike signs, the one with the greater square tells the sign.
        return a * a > root * b * b ? signA : signB;
    }

    /** What the next MOVER is laid from; no order was told as long as count is 0. */
    private static final class Sheet {
        int count;
        final int[] partA = new int[MOST_SPANS];
        final int[] partB = new int[MOST_SPANS];
        final int[] under = new int[MOST_SPANS];

        void clear() {
            count = 0;
            for (int k = 0; k < MOST_SPANS; k++) {
                partA[k] = 0;
                partB[k] = 0;
            }
        }

        boolean takeOrder(int n, int packed) {
            if (n < LEAST_SPANS || n > MOST_SPANS) {
                return false;
            }
            int met = 0;
            for (int j = 0; j < n; j++) {
                met |= 1 << nibble(packed, j);
            }
            // n numbers that meet n SPANS meet each of them once.
            if (met != (1 << n) - 1) {
                return false;
            }
            for (int j = 0; j < n; j++) {
                under[j] = nibble(packed, j);
            }
            count = n;
            return true;
        }

        boolean hasAllLengths() {
            for (int k = 0; k < count; k++) {
                if (partA[k] == 0 && partB[k] == 0) {
                    return false;
                }
            }
            return true;
        }

        private static int nibble(int packed, int j) {
            return (packed >>> (4 * j)) & 15;
        }
    }

    /** THE MOVER with THE TABLE; there is none as long as count is 0. */
    private static final class Mover {
        int count;
        int root;
        int stepsDone;
        int stepsOfU;
        final int[] partA = new int[MOST_SPANS];
        final int[] partB = new int[MOST_SPANS];
        final int[] above = new int[MOST_SPANS];
        final int[] under = new int[MOST_SPANS];
        final long[] sums = new long[MOST_SPANS * MOST_SPANS];

        void layFrom(Sheet sheet, int rootNow) {
            count = sheet.count;
            root = rootNow;
            stepsDone = 0;
            stepsOfU = 0;
            for (int k = 0; k < count; k++) {
                partA[k] = sheet.partA[k];
                partB[k] = sheet.partB[k];
                above[k] = k;
                under[k] = sheet.under[k];
                for (int j = 0; j < count; j++) {
                    sums[k * MOST_SPANS + j] = k == j ? 1L : 0L;
                }
            }
        }

        void copyFrom(Mover other) {
            count = other.count;
            root = other.root;
            stepsDone = other.stepsDone;
            stepsOfU = other.stepsOfU;
            System.arraycopy(other.partA, 0, partA, 0, MOST_SPANS);
            System.arraycopy(other.partB, 0, partB, 0, MOST_SPANS);
            System.arraycopy(other.above, 0, above, 0, MOST_SPANS);
            System.arraycopy(other.under, 0, under, 0, MOST_SPANS);
            System.arraycopy(other.sums, 0, sums, 0, MOST_SPANS * MOST_SPANS);
        }

        int partedAt() {
            int metAbove = 0;
            int metUnder = 0;
            for (int j = 1; j < count; j++) {
                metAbove |= 1 << above[j - 1];
                metUnder |= 1 << under[j - 1];
                if (metAbove == metUnder) {
                    return j;
                }
            }
            return 0;
        }

        int advance() {
            if (count == 0) {
                return NO_MOVER;
            }
            int u = above[count - 1];
            int v = under[count - 1];
            if (u == v) {
                return CAN_NOT_BE;
            }
            int longer = signOf(partA[u] - partA[v], partB[u] - partB[v], root);
            if (longer == 0) {
                return TIE;
            }
            boolean uWins = longer > 0;
            int winner = uWins ? u : v;
            int loser = uWins ? v : u;
            if (isSpentBy(winner, loser)) {
                return SPENT;
            }
            shorten(winner, loser);
            bringLastBehind(winner, uWins ? under : above);
            stepsDone++;
            stepsOfU += uWins ? 1 : 0;
            return uWins ? U_WON : V_WON;
        }

        boolean hasOrdersOf(Mover other) {
            for (int j = 0; j < count; j++) {
                if (above[j] != other.above[j] || under[j] != other.under[j]) {
                    return false;
                }
            }
            return true;
        }

        /** Shares are compared crosswise, by products, so that nothing is divided. */
        boolean hasSharesOf(Mover other) {
            for (int k = 1; k < count; k++) {
                if (productA(k, other) != other.productA(k, this) || productB(k, other) != other.productB(k, this)) {
                    return false;
                }
            }
            return true;
        }

        /** The a of SPAN k's LENGTH times the LENGTH that SPAN 0 has in the other MOVER. */
        private long productA(int k, Mover other) {
            return (long) partA[k] * other.partA[0] + (long) root * partB[k] * other.partB[0];
        }

        /** The b of SPAN k's LENGTH times the LENGTH that SPAN 0 has in the other MOVER. */
        private long productB(int k, Mover other) {
            return (long) partA[k] * other.partB[0] + (long) partB[k] * other.partA[0];
        }

        private boolean isSpentBy(int winner, int loser) {
            if (!isWithin(partA[winner] - partA[loser], MOST_OF_LENGTH)
                    || !isWithin(partB[winner] - partB[loser], MOST_OF_LENGTH)) {
                return true;
            }
            for (int i = 0; i < count; i++) {
                int row = i * MOST_SPANS;
                if (sums[row + winner] + sums[row + loser] > MOST_OF_TABLE) {
                    return true;
                }
            }
            return false;
        }

        private void shorten(int winner, int loser) {
            partA[winner] -= partA[loser];
            partB[winner] -= partB[loser];
            // What the winner was is now the winner and the loser together.
            for (int i = 0; i < count; i++) {
                int row = i * MOST_SPANS;
                sums[row + loser] += sums[row + winner];
            }
        }

        private void bringLastBehind(int winner, int[] line) {
            int last = line[count - 1];
            int j = count - 1;
            while (j > 0 && line[j - 1] != winner) {
                line[j] = line[j - 1];
                j--;
            }
            line[j] = last;
        }
    }

    /** A place on the line, if it is there. */
    private static final class Spot {
        boolean there;
        long a;
        long b;

        void put(long newA, long newB) {
            there = true;
            a = newA;
            b = newB;
        }
    }

    /** One MOVE, drawn once for many points: from one order of the SPANS to the other one. */
    private static final class Way {
        int count;
        private int root;
        final int[] span = new int[MOST_SPANS];
        final long[] edgeA = new long[MOST_SPANS + 1];
        final long[] edgeB = new long[MOST_SPANS + 1];
        final long[] shiftA = new long[MOST_SPANS];
        private final long[] shiftB = new long[MOST_SPANS];

        void draw(Mover mover, int[] from, int[] to) {
            count = mover.count;
            root = mover.root;
            long a = 0L;
            long b = 0L;
            for (int j = 0; j < count; j++) {
                int k = to[j];
                shiftA[k] = a;
                shiftB[k] = b;
                a += mover.partA[k];
                b += mover.partB[k];
            }
            a = 0L;
            b = 0L;
            for (int j = 0; j < count; j++) {
                int k = from[j];
                span[j] = k;
                edgeA[j] = a;
                edgeB[j] = b;
                shiftA[k] -= a;
                shiftB[k] -= b;
                a += mover.partA[k];
                b += mover.partB[k];
            }
            edgeA[count] = a;
            edgeB[count] = b;
        }

        boolean covers(long a, long b) {
            return signOf(a, b, root) >= 0 && isLeftOf(a, b, count);
        }

        /** For places on the line alone: what no earlier SPAN has is in the last one. */
        int spanAt(Spot place) {
            int j = 0;
            while (j < count - 1 && !isLeftOf(place.a, place.b, j + 1)) {
                j++;
            }
            return span[j];
        }

        boolean carry(Spot place) {
            return shift(place, spanAt(place));
        }

        boolean shift(Spot place, int k) {
            place.a += shiftA[k];
            place.b += shiftB[k];
            return isWithin(place.a, MOST_OF_POINT) && isWithin(place.b, MOST_OF_POINT);
        }

        boolean isLeftEnd(Spot place) {
            for (int j = 0; j < count; j++) {
                if (edgeA[j] == place.a && edgeB[j] == place.b) {
                    return true;
                }
            }
            return false;
        }

        private boolean isLeftOf(long a, long b, int edge) {
            return signOf(a - edgeA[edge], b - edgeB[edge], root) < 0;
        }
    }

    /** The rounds that were told last. There are no more than SPANS: each has a SPAN's left end. */
    private static final class Heaps {
        int count;
        final int[] width = new int[MOST_SPANS];
        final int[] times = new int[MOST_SPANS];
        final int[] least = new int[MOST_SPANS];
        private final int[] to = new int[MOST_PIECES];
        /** Pieces from this one on to its SPAN's right end; 0 as soon as a round has it. */
        private final int[] room = new int[MOST_PIECES];

        void tell(Way way, int total) {
            drawPieces(way);
            count = 0;
            for (int piece = 0; piece < total && count < MOST_SPANS; piece++) {
                // The first piece that no round has yet is the left one of its HEAP, and the least.
                if (room[piece] > 0) {
                    measure(piece, total);
                    takeOut();
                    count++;
                }
            }
        }

        private void drawPieces(Way way) {
            for (int j = 0; j < way.count; j++) {
                int end = (int) way.edgeA[j + 1];
                int shift = (int) way.shiftA[way.span[j]];
                for (int piece = (int) way.edgeA[j]; piece < end; piece++) {
                    to[piece] = piece + shift;
                    room[piece] = end - piece;
                }
            }
        }

        private void measure(int first, int total) {
            int together = total;
            int moves = 0;
            int piece = first;
            do {
                together = Math.min(together, room[piece]);
                piece = to[piece];
                moves++;
            } while (piece != first && moves < total);
            width[count] = together;
            times[count] = moves;
            least[count] = first;
        }

        private void takeOut() {
            int piece = least[count];
            for (int i = 0; i < times[count]; i++) {
                for (int side = 0; side < width[count]; side++) {
                    room[piece + side] = 0;
                }
                piece = to[piece];
            }
        }
    }

    /** THE CLASS. With SPANS named by their place above, the order below alone tells a pair. */
    private static final class Kin {
        private int count;
        private int found;
        private final boolean[] met = new boolean[ORDERS_OF_SIX];
        private final int[] packed = new int[ORDERS_OF_SIX];
        private final int[] line = new int[MOST_SPANS_OF_CLASS];
        private final int[] next = new int[MOST_SPANS_OF_CLASS];

        int countFrom(Mover mover) {
            count = mover.count;
            found = 0;
            for (int i = 0; i < ORDERS_OF_SIX; i++) {
                met[i] = false;
            }
            nameByPlaceAbove(mover);
            takeNext();
            for (int i = 0; i < found && i < ORDERS_OF_SIX; i++) {
                unpack(packed[i]);
                if (line[count - 1] != count - 1) {
                    letUWin();
                    takeNext();
                    letVWin();
                    takeNext();
                }
            }
            return found;
        }

        private void nameByPlaceAbove(Mover mover) {
            for (int i = 0; i < count; i++) {
                for (int j = 0; j < count; j++) {
                    if (mover.under[j] == mover.above[i]) {
                        next[j] = i;
                    }
                }
            }
        }

        private void letUWin() {
            int u = count - 1;
            int v = line[count - 1];
            int to = 0;
            for (int j = 0; j < count - 1; j++) {
                next[to] = line[j];
                to++;
                if (line[j] == u) {
                    next[to] = v;
                    to++;
                }
            }
        }

        private void letVWin() {
            int u = count - 1;
            int v = line[count - 1];
            for (int j = 0; j < count; j++) {
                int k = line[j];
                // Above, u comes to the place behind v, and all that stood there go on by one.
                next[j] = k <= v ? k : k == u ? v + 1 : k + 1;
            }
        }

        private void takeNext() {
            int rank = rankOfNext();
            if (met[rank] || found >= ORDERS_OF_SIX) {
                return;
            }
            met[rank] = true;
            packed[found] = packNext();
            found++;
        }

        /** The number of orders ahead of it in the dictionary: below 720, and another one for each. */
        private int rankOfNext() {
            int rank = 0;
            for (int i = 0; i < count; i++) {
                int less = 0;
                for (int j = i + 1; j < count; j++) {
                    if (next[j] < next[i]) {
                        less++;
                    }
                }
                rank = rank * (count - i) + less;
            }
            return rank;
        }

        private int packNext() {
            int all = 0;
            for (int j = 0; j < count; j++) {
                all |= next[j] << (4 * j);
            }
            return all;
        }

        private void unpack(int all) {
            for (int j = 0; j < count; j++) {
                line[j] = (all >>> (4 * j)) & 15;
            }
        }
    }

    /** THE GROUND: corners above are 0 .. n, those between sides below n + 1 .. 2 n - 1. */
    private static final class Figure {
        private int count;
        private final int[] name = new int[2 * MOST_SPANS];

        void glue(Mover mover) {
            count = mover.count;
            for (int corner = 0; corner < 2 * count; corner++) {
                name[corner] = corner;
            }
            for (int i = 0; i < count; i++) {
                for (int j = 0; j < count; j++) {
                    if (mover.above[i] == mover.under[j]) {
                        join(i, cornerBelow(j));
                        join(i + 1, cornerBelow(j + 1));
                    }
                }
            }
        }

        int points() {
            int points = 0;
            for (int corner = 0; corner < 2 * count; corner++) {
                if (name[corner] == corner) {
                    points++;
                }
            }
            return points;
        }

        int mostTurns() {
            int most = 0;
            for (int corner = 0; corner < 2 * count; corner++) {
                most = Math.max(most, turnsAt(corner));
            }
            return most;
        }

        int pointsWithOneTurn() {
            int points = 0;
            for (int corner = 0; corner < 2 * count; corner++) {
                if (name[corner] == corner && turnsAt(corner) == 1) {
                    points++;
                }
            }
            return points;
        }

        private int turnsAt(int corner) {
            int turns = 0;
            for (int between = 1; between < count; between++) {
                if (name[between] == name[corner]) {
                    turns++;
                }
            }
            return turns;
        }

        private int cornerBelow(int j) {
            return j == 0 ? 0 : j == count ? count : count + j;
        }

        private void join(int one, int other) {
            int kept = name[one];
            int gone = name[other];
            for (int corner = 0; corner < 2 * count; corner++) {
                if (name[corner] == gone) {
                    name[corner] = kept;
                }
            }
        }
    }
}

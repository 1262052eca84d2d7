/** Promises 18 to 22: rounds, round, words, classes, ground. */
public final class RoundTest {
    public static void main(String[] args) {
        roundsOfHeaps();
        roundsThatAreRefused();
        roundsOfTheGreatestTotal();
        theLatestRoundsThatToldSome();
        roundThatThereIsNone();
        wordsOfWholeLengths();
        wordsOfLengthsWithRoots();
        wordsThatAreRefused();
        sizesOfClasses();
        classesThatAreRefused();
        grounds();
        groundThatThereIsNone();
        Due.end();
    }

    private static void round(SpanBench x, int k, int width, int times, int least) {
        Due.is("width of " + k, x.round(k, 0), width);
        Due.is("times of " + k, x.round(k, 1), times);
        Due.is("least of " + k, x.round(k, 2), least);
    }

    private static void roundsOfHeaps() {
        SpanBench x = Due.laid(0x012, 4, 6, 10);
        // As with lengths 2, 3 and 5, where one round has all pieces, but twice as wide.
        Due.is("all by twos, one round", x.rounds(), 1);
        round(x, 0, 2, 10, 0);
        SpanBench same = Due.laid(0x210, 4, 6, 10);
        Due.is("as above: each span is a heap, side by side", same.rounds(), 3);
        round(same, 0, 4, 1, 0);
        round(same, 1, 6, 1, 4);
        round(same, 2, 10, 1, 10);
        SpanBench parted = Due.laid(0x2301, 6, 4, 5, 5);
        Due.is("two parts", parted.rounds(), 2);
        round(parted, 0, 2, 5, 0);
        round(parted, 1, 5, 2, 10);
        SpanBench turned = Due.laid(0x012, 3, 5, 3);
        Due.is("the middle one stays", turned.rounds(), 2);
        round(turned, 0, 3, 2, 0);
        round(turned, 1, 5, 1, 3);
        Due.is("a new lay", turned.lay(), 3);
        Due.is("told again", turned.rounds(), 2);
        round(turned, 1, 5, 1, 3);
        SpanBench eight = Due.laid(0x76543210, 1, 2, 3, 4, 5, 6, 7, 8);
        Due.is("eight rounds", eight.rounds(), 8);
        round(eight, 7, 8, 1, 28);
    }

    private static void roundsThatAreRefused() {
        Due.is("no mover", new SpanBench().rounds(), -1);
        Due.is("total 2001", Due.laid(0x01, 1000, 1001).rounds(), -2);
        Due.is("total 131072", Due.laid(0x01234567, 16384, 16384, 16384, 16384, 16384, 16384, 16384, 16384).rounds(), -2);
        Due.is("a root", Due.laidWithRoot(2, 0x01, 3, 0, 5, 0).rounds(), -2);
        SpanBench x = Due.laid(0x01, 1500, 1000);
        Due.is("total 2500", x.rounds(), -2);
        Due.is("step", x.step(), 0);
        Due.is("total 1500 now", x.rounds(), 1);
        round(x, 0, 500, 3, 0);
    }

    private static void roundsOfTheGreatestTotal() {
        SpanBench x = Due.laid(0x01, 999, 1001);
        Due.is("total 2000", x.rounds(), 1);
        round(x, 0, 1, 2000, 0);
        SpanBench y = Due.laid(0x01, 800, 1200);
        Due.is("total 2000, wide", y.rounds(), 1);
        round(y, 0, 400, 5, 0);
    }

    private static void theLatestRoundsThatToldSome() {
        SpanBench x = Due.laid(0x01, 6, 10);
        Due.is("not told yet", x.round(0, 0), -1);
        Due.is("rounds", x.rounds(), 1);
        round(x, 0, 2, 8, 0);
        Due.is("step", x.step(), 1);
        round(x, 0, 2, 8, 0);
        Due.is("length", x.length(0, 2000, 0), true);
        Due.is("lay", x.lay(), 2);
        Due.is("refused", x.rounds(), -2);
        round(x, 0, 2, 8, 0);
        Due.is("root", x.root(3), true);
        Due.is("no mover", x.rounds(), -1);
        round(x, 0, 2, 8, 0);
        Due.is("root", x.root(0), true);
        Due.is("length", x.length(0, 2, 0), true);
        Due.is("length", x.length(1, 4, 0), true);
        Due.is("below", x.below(2, 0x10), true);
        Due.is("lay", x.lay(), 2);
        Due.is("rounds", x.rounds(), 2);
        round(x, 0, 2, 1, 0);
        round(x, 1, 4, 1, 2);
        Due.is("below", x.below(2, 0x01), true);
        Due.is("lay", x.lay(), 2);
        Due.is("fewer rounds", x.rounds(), 1);
        round(x, 0, 2, 3, 0);
        Due.is("the second is gone", x.round(1, 0), -1);
    }

    private static void roundThatThereIsNone() {
        SpanBench x = Due.laid(0x012, 3, 5, 3);
        Due.is("rounds", x.rounds(), 2);
        Due.is("k -1", x.round(-1, 0), -1);
        Due.is("k 2", x.round(2, 0), -1);
        Due.is("k least", x.round(Integer.MIN_VALUE, 0), -1);
        Due.is("k most", x.round(Integer.MAX_VALUE, 0), -1);
        Due.is("what -1", x.round(0, -1), -1);
        Due.is("what 3", x.round(0, 3), -1);
    }

    private static void wordsOfWholeLengths() {
        SpanBench x = Due.laid(0x01, 3, 5);
        for (int m = 1; m <= 10; m++) {
            Due.is("words of " + m, x.words(m), Math.min(m + 1, 8));
        }
        SpanBench same = Due.laid(0x3210, 1, 2, 3, 4);
        for (int m = 1; m <= 10; m++) {
            Due.is("as above, words of " + m, same.words(m), 4);
        }
        // 0 7 2 4 6 1 8 3 5 in spans: 0 2 1 1 2 0 2 1 2, and round again.
        SpanBench three = Due.laid(0x012, 2, 3, 4);
        int[] due = {3, 5, 6, 7, 8};
        for (int m = 1; m <= 5; m++) {
            Due.is("three, words of " + m, three.words(m), due[m - 1]);
        }
        Due.is("step", x.step(), 1);
        Due.is("words of the mover as it is now", x.words(10), 5);
    }

    private static void wordsOfLengthsWithRoots() {
        SpanBench two = Due.laidWithRoot(3, 0x01, 1, 0, 0, 1);
        // Ends that never meet: each MOVE brings as many words more as there are spans but one.
        SpanBench four = Due.laidWithRoot(2, 0x0123, 16384, -11585, 3, 1, 5, -3, -1, 5);
        for (int m = 1; m <= 10; m++) {
            Due.is("two, words of " + m, two.words(m), m + 1);
            Due.is("four, words of " + m, four.words(m), 3 * m + 1);
        }
    }

    private static void wordsThatAreRefused() {
        Due.is("no mover", new SpanBench().words(5), -1);
        SpanBench x = Due.laid(0x01, 3, 5);
        Due.is("m 0", x.words(0), -2);
        Due.is("m 11", x.words(11), -2);
        Due.is("m -1", x.words(-1), -2);
        Due.is("m most", x.words(Integer.MAX_VALUE), -2);
        Due.is("m least", x.words(Integer.MIN_VALUE), -2);
    }

    private static void sizesOfClasses() {
        Due.is("2", Due.laid(0x01, 1, 1).classes(), 1);
        Due.is("3", Due.laid(0x012, 1, 1, 1).classes(), 3);
        Due.is("3, turned round", Due.laid(0x021, 1, 1, 1).classes(), 3);
        // All orders of four that are not parted: 13, in classes of 7 and 6.
        Due.is("4", Due.laid(0x0123, 1, 1, 1, 1).classes(), 7);
        Due.is("4, turned round", Due.laid(0x0321, 1, 1, 1, 1).classes(), 6);
        // All orders of five that are not parted: 71, in classes of 15, 35, 11 and 10.
        Due.is("5", Due.laid(0x01234, 1, 1, 1, 1, 1).classes(), 15);
        Due.is("5, turned round", Due.laid(0x04321, 1, 1, 1, 1, 1).classes(), 10);
        Due.is("6", Due.laid(0x012345, 1, 1, 1, 1, 1, 1).classes(), 31);
        Due.is("as above", Due.laid(0x543210, 1, 1, 1, 1, 1, 1).classes(), 1);
        Due.is("the last stays", Due.laid(0x501234, 1, 1, 1, 1, 1, 1).classes(), 1);
        Due.is("the first stays", Due.laid(0x120, 1, 1, 1).classes(), 1);
        SpanBench x = Due.laid(0x0123, 11, 7, 5, 17);
        for (int i = 0; i < 5; i++) {
            Due.is("the class stays", x.classes(), 7);
            Due.is("step", x.step() >= 0, true);
        }
    }

    private static void classesThatAreRefused() {
        Due.is("no mover", new SpanBench().classes(), -1);
        Due.is("7", Due.laid(0x0123456, 1, 1, 1, 1, 1, 1, 1).classes(), -2);
        Due.is("8", Due.laid(0x01234567, 1, 1, 1, 1, 1, 1, 1, 1).classes(), -2);
    }

    private static void ground(SpanBench x, int points, int handles, int mostTurns, int ofOneTurn) {
        Due.is("points", x.ground(0), points);
        Due.is("handles", x.ground(1), handles);
        Due.is("most turns", x.ground(2), mostTurns);
        Due.is("points of one turn", x.ground(3), ofOneTurn);
    }

    private static void grounds() {
        ground(Due.laid(0x01, 1, 1), 1, 1, 1, 1);
        ground(Due.laid(0x10, 1, 1), 3, 0, 1, 1);
        ground(Due.laid(0x210, 1, 1, 1), 4, 0, 1, 2);
        ground(Due.laid(0x012, 1, 1, 1), 2, 1, 1, 2);
        ground(Due.laid(0x0123, 1, 1, 1, 1), 1, 2, 3, 0);
        ground(Due.laid(0x0321, 1, 1, 1, 1), 3, 1, 1, 3);
        ground(Due.laid(0x01234, 1, 1, 1, 1, 1), 2, 2, 2, 0);
        ground(Due.laid(0x012345, 1, 1, 1, 1, 1, 1), 1, 3, 5, 0);
        ground(Due.laid(0x0123456, 1, 1, 1, 1, 1, 1, 1), 2, 3, 3, 0);
        ground(Due.laid(0x01234567, 1, 1, 1, 1, 1, 1, 1, 1), 1, 4, 7, 0);
        ground(Due.laid(0x76543210, 1, 1, 1, 1, 1, 1, 1, 1), 9, 0, 1, 7);
        SpanBench x = Due.laid(0x0123, 11, 7, 5, 17);
        for (int i = 0; i < 5; i++) {
            ground(x, 1, 2, 3, 0);
            Due.is("step", x.step() >= 0, true);
        }
    }

    private static void groundThatThereIsNone() {
        SpanBench x = Due.laid(0x012, 1, 1, 1);
        Due.is("what -1", x.ground(-1), -1);
        Due.is("what 4", x.ground(4), -1);
        Due.is("what least", x.ground(Integer.MIN_VALUE), -1);
        Due.is("what most", x.ground(Integer.MAX_VALUE), -1);
        Due.is("no mover", new SpanBench().ground(0), -1);
    }
}

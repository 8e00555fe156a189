/** Promises 10 and 13: order, weight. */
final class OrdersTest {
    private static final int BAD = FallRows.BAD;

    private static FallRows blocks(int n) {
        int[] sizes = new int[n];
        java.util.Arrays.fill(sizes, 1);
        return LayoutTest.of(sizes);
    }

    private static void go(FallRows x, int block, int to, int count) {
        x.end(block, 2, to, 0, 0, 0);
        x.count(block, 0, count);
    }

    private static void test(FallRows x, int block, int to, int other, int... counts) {
        x.end(block, 3, to, other, 0, 0);
        x.count(block, 0, counts[0]);
        x.count(block, 1, counts[1]);
    }

    private static void guarded(FallRows x, int block, int to, int other, int... counts) {
        x.end(block, 6, to, other, 0, 0);
        x.count(block, 0, counts[0]);
        x.count(block, 1, counts[1]);
    }

    private static void weightOfEachKind(Due due) {
        FallRows x = blocks(3);
        due.is("13: BACK", x.weight(0, 0), 0);
        go(x, 0, 1, 7);
        due.is("13: GO to NEXT", x.weight(0, 0), 0);
        go(x, 0, 2, 7);
        due.is("13: GO on", x.weight(0, 0), 14);
        x.end(0, 5, 2, 0, 0, 0);
        x.count(0, 0, 8);
        due.is("13: CALL", x.weight(0, 0), 16);
        x.end(0, 5, 1, 0, 0, 0);
        x.count(0, 0, 8);
        due.is("13: CALL, NEXT", x.weight(0, 0), 0);
        guarded(x, 0, 2, 1, 9, 100);
        due.is("13: GUARDED", x.weight(0, 0), 18);
        guarded(x, 0, 1, 2, 9, 100);
        due.is("13: GUARDED, NEXT", x.weight(0, 0), 0);
        test(x, 0, 1, 2, 5, 11);
        due.is("13: TEST, WAY 0 NEXT", x.weight(0, 0), 38);
        test(x, 0, 2, 1, 5, 11);
        due.is("13: TEST, WAY 1 NEXT", x.weight(0, 0), 26);
        test(x, 0, 1, 1, 5, 11);
        due.is("13: TEST, both NEXT", x.weight(0, 0), 26);
        test(x, 0, 2, 0, 5, 11);
        due.is("13: TEST, none NEXT", x.weight(0, 0), 48);
        x.end(0, 4, 2, 2, 0, 2);
        x.count(0, 0, 1000);
        due.is("13: TABLE", x.weight(0, 0), 0);
        x.end(0, 0, 0, 0, 0, 0);
        go(x, 2, 0, 4);
        due.is("13: the last one goes on nowhere", x.weight(0, 0), 8);
    }

    private static void bestBoundFalls(Due due) {
        FallRows x = blocks(1);
        go(x, 0, 0, 6);
        due.is("13: one BLOCK", x.weight(0, 0), 12);
        due.is("13: one BLOCK, BEST", x.weight(0, 1), 12);
        due.is("13: one BLOCK, BOUND, though nothing could be NEXT", x.weight(0, 2), 0);
        due.is("13: one BLOCK, falls", x.weight(0, 3), 0);
        test(x, 0, 0, 0, 10, 1);
        due.is("13: BOUND of a TEST with one WAY twice", x.weight(0, 2), 31);
        x = blocks(4);
        go(x, 0, 3, 10);
        go(x, 1, 3, 20);
        go(x, 2, 1, 5);
        test(x, 3, 2, 0, 4, 6);
        due.is("13: as it is", x.weight(0, 0), 20 + 40 + 10 + 30);
        due.is("13: BEST", x.weight(0, 1), 50);
        due.is("13: BOUND", x.weight(0, 2), 18);
        due.is("13: falls", x.weight(0, 3), 0);
        due.are("13: weight() orders nothing", LayoutTest.row(x), "0 1 2 3");
        due.is("13: nothing to undo", x.has(6), 0);
        x.swap(2, 3);
        due.is("13: falls", x.weight(0, 3), 2);
        x.cold(3, true);
        x.set(0, 1);
        due.is("13: by its order, not by THE ROW", x.weight(0, 3), 2);
        due.is("13: by its order, not by THE ROW", x.weight(0, 0), 20 + 0 + 10 + 22);
        x = blocks(4);
        x.end(0, 4, 3, 2, 1, -1);
        x.end(1, 6, 0, 2, 0, 0);
        x.end(2, 3, 3, 3, 0, 0);
        due.is("13: falls, any WAY", x.weight(0, 3), 3);
        x.end(2, 0, 0, 0, 0, 0);
        due.is("13: falls, any WAY", x.weight(0, 3), 2);
    }

    private static void refused(Due due) {
        FallRows x = blocks(3);
        x.routine();
        for (int r : new int[] {-1, 1, 2}) {
            due.is("13: ROUTINE " + r, x.weight(r, 0), BAD);
            due.is("10: ROUTINE " + r, x.order(r, 0), BAD);
        }
        due.is("13: what 4", x.weight(0, 4), BAD);
        due.is("13: what -1", x.weight(0, -1), BAD);
        due.is("10: how 4", x.order(0, 4), BAD);
        due.is("10: how -1", x.order(0, -1), BAD);
        due.is("10: nothing kept", x.has(6), 0);
    }

    private static void asTheyCameAndBest(Due due) {
        FallRows x = blocks(4);
        x.move(3, 1);
        go(x, 1, 2, 3);
        go(x, 0, 2, 3);
        due.is("10: as they came", x.order(0, 0), 6);
        due.are("10: as they came", LayoutTest.row(x), "0 1 2 3");
        x.move(3, 1);
        x.move(2, 1);
        due.is("10: BEST, the first of several", x.order(0, 1), 6);
        due.are("10: BEST, the first of several", LayoutTest.row(x), "0 1 2 3");
        go(x, 0, 3, 4);
        due.is("10: BEST", x.order(0, 1), 0);
        due.are("10: BEST", LayoutTest.row(x), "0 3 1 2");
        go(x, 0, 0, 4);
        go(x, 1, 0, 1);
        due.is("10: BEST, the first of all", x.order(0, 1), 10);
        due.are("10: BEST, the first of all", LayoutTest.row(x), "0 1 2 3");
        x = blocks(9);
        for (int b = 0; b < 8; b++) {
            go(x, b == 0 ? 0 : 9 - b, 8 - b, 1000000);
        }
        due.is("10: BEST of nine", x.weight(0, 0), 16000000);
        due.is("10: BEST of nine", x.order(0, 1), 0);
        due.are("10: BEST of nine", LayoutTest.row(x), "0 8 7 6 5 4 3 2 1");
        due.is("10: undone", x.undo(), 0);
        due.are("10: undone", LayoutTest.row(x), "0 1 2 3 4 5 6 7 8");
    }

    /** Each sort of change where no sort ahead of it does anything, and the first pair of several. */
    private static void local(Due due) {
        FallRows x = blocks(4);
        go(x, 0, 3, 5);
        go(x, 3, 2, 5);
        due.is("10: LOCAL, two change places", x.order(0, 2), 0);
        due.are("10: LOCAL, two change places", LayoutTest.row(x), "0 3 2 1");
        x = blocks(4);
        go(x, 0, 2, 5);
        due.is("10: LOCAL, the first pair", x.order(0, 2), 0);
        due.are("10: LOCAL, the first pair", LayoutTest.row(x), "0 2 1 3");
        x = blocks(5);
        go(x, 3, 2, 5);
        due.is("10: LOCAL, by i, then j", x.order(0, 2), 0);
        due.are("10: LOCAL, by i, then j", LayoutTest.row(x), "0 3 2 1 4");
        x = blocks(5);
        go(x, 0, 4, 1);
        go(x, 1, 2, 1);
        go(x, 3, 2, 1);
        due.is("10: LOCAL, some are turned round", x.order(0, 2), 2);
        due.are("10: LOCAL, some are turned round", LayoutTest.row(x), "0 4 3 2 1");
        x = blocks(4);
        go(x, 3, 1, 1);
        due.is("10: LOCAL, the one at i comes to j", x.order(0, 2), 0);
        due.are("10: LOCAL, the one at i comes to j", LayoutTest.row(x), "0 2 3 1");
        x = blocks(4);
        go(x, 0, 3, 1);
        go(x, 1, 2, 1);
        due.is("10: LOCAL, the one at j comes to i", x.order(0, 2), 0);
        due.are("10: LOCAL, the one at j comes to i", LayoutTest.row(x), "0 3 1 2");
        x = blocks(4);
        x.move(3, 1);
        due.is("10: LOCAL, from what it is", x.order(0, 2), 0);
        due.are("10: LOCAL, from what it is", LayoutTest.row(x), "0 3 1 2");
    }

    private static void chains(Due due) {
        FallRows x = blocks(5);
        go(x, 0, 1, 0);
        x.move(4, 1);
        due.is("10: CHAINS without COUNTS", x.order(0, 3), 0);
        due.are("10: CHAINS without COUNTS", LayoutTest.row(x), "0 1 2 3 4");
        x = blocks(5);
        test(x, 0, 3, 4, 7, 7);
        due.is("10: CHAINS, by WAYS", x.order(0, 3), 7 + 21);
        due.are("10: CHAINS, by WAYS", LayoutTest.row(x), "0 3 4 1 2");
        test(x, 0, 3, 4, 7, 8);
        due.is("10: CHAINS, by COUNTS", x.order(0, 3), 21 + 8);
        due.are("10: CHAINS, by COUNTS", LayoutTest.row(x), "0 4 3 1 2");
        x = blocks(5);
        go(x, 1, 3, 9);
        go(x, 2, 3, 9);
        go(x, 0, 2, 1);
        due.is("10: CHAINS, by BLOCKS", x.order(0, 3), 18);
        due.are("10: CHAINS, by BLOCKS", LayoutTest.row(x), "0 2 1 3 4");
        go(x, 3, 0, 50);
        go(x, 4, 4, 60);
        due.is("10: CHAINS, none to the first, none to itself", x.order(0, 3), 18 + 100 + 120);
        due.are("10: CHAINS, none to the first, none to itself", LayoutTest.row(x), "0 2 1 3 4");
        x = blocks(4);
        go(x, 1, 2, 9);
        go(x, 2, 3, 8);
        go(x, 3, 1, 7);
        due.is("10: CHAINS, no ring", x.order(0, 3), 14);
        due.are("10: CHAINS, no ring", LayoutTest.row(x), "0 1 2 3");
        x = blocks(5);
        guarded(x, 0, 1, 4, 1, 100);
        x.end(1, 4, 3, 3, 2, -1);
        x.count(1, 0, 30);
        x.count(1, 1, 30);
        x.count(1, 2, 50);
        due.is("10: CHAINS, all WAYS lead on", x.order(0, 3), 0);
        due.are("10: CHAINS, all WAYS lead on", LayoutTest.row(x), "0 1 4 3 2");
        x = blocks(6);
        go(x, 2, 5, 10);
        test(x, 0, 3, 5, 4, 3);
        go(x, 3, 2, 0);
        due.is("10: CHAINS, into the midst of one", x.order(0, 3), 4 + 9);
        due.are("10: CHAINS, into the midst of one", LayoutTest.row(x), "0 3 2 5 1 4");
    }

    public static void main(String[] args) {
        Due due = new Due();
        weightOfEachKind(due);
        bestBoundFalls(due);
        refused(due);
        asTheyCameAndBest(due);
        local(due);
        chains(due);
        due.finish();
    }
}

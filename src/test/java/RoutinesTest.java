/** Promises 1 to 7: a new object, routine, block, end, count, cold, about. */
final class RoutinesTest {
    private static final int BAD = FallRows.BAD, FULL = FallRows.FULL, NONE = FallRows.NONE;

    static String about(FallRows x, int block) {
        StringBuilder all = new StringBuilder();
        for (int what = 0; what <= 14; what++) {
            all.append(what == 0 ? "" : " ").append(x.about(block, what));
        }
        return all.toString();
    }

    /** A ROUTINE with so many BLOCKS, each of one byte. */
    static void fill(FallRows x, int routine, int blocks) {
        for (int i = 0; i < blocks; i++) {
            x.block(routine, 1);
        }
    }

    private static void promise1(Due due) {
        FallRows x = new FallRows();
        int[] want = {0, 0, 0, 0, 1, 4, 0, BAD};
        for (int what = 0; what < want.length; what++) {
            due.is("1: has(" + what + ")", x.has(what), want[what]);
        }
        due.is("1: row(0)", x.row(0), NONE);
        due.is("1: image(0)", x.image(0), NONE);
        for (int what = 0; what <= 5; what++) {
            due.is("1: told(" + what + ")", x.told(what), 0);
        }
        due.is("1: undo()", x.undo(), FallRows.STATE);
        due.is("1: learn()", x.learn(), FallRows.STATE);
        due.is("1: pages(4)", x.pages(4), FallRows.STATE);
        due.is("1: differ()", x.differ(), NONE);
        due.is("1: ran(0, 0)", x.ran(0, 0), NONE);
        due.is("1: ran(1, 8)", x.ran(1, 8), NONE);
        due.is("1: passed(0, 0)", x.passed(0, 0), NONE);
        due.is("1: tear()", x.tear(), 0);
        FallRows y = new FallRows();
        y.routine();
        due.is("1: another object is another one", x.has(0), 0);
    }

    private static void promise2(Due due) {
        FallRows x = new FallRows();
        for (int i = 0; i < 6; i++) {
            due.is("2: routine()", x.routine(), i);
        }
        due.is("2: routine()", x.routine(), FULL);
        due.is("2: has(0)", x.has(0), 6);
        due.is("2: without BLOCKS", x.weight(5, 0), BAD);
        due.is("2: no BLOCKS", x.has(1), 0);
    }

    private static void promise3(Due due) {
        FallRows x = new FallRows();
        due.is("3: no ROUTINE", x.block(0, 1), BAD);
        x.routine();
        x.routine();
        due.is("3: ROUTINE -1", x.block(-1, 1), BAD);
        due.is("3: ROUTINE 2", x.block(2, 1), BAD);
        due.is("3: SIZE 0", x.block(0, 0), BAD);
        due.is("3: SIZE 201", x.block(0, 201), BAD);
        due.is("3: SIZE least int", x.block(0, Integer.MIN_VALUE), BAD);
        due.is("3: SIZE 200", x.block(0, 200), 0);
        due.is("3: SIZE 1", x.block(1, 1), 1);
        due.is("3: numbered in all", x.block(0, 7), 2);
        due.are("3: a new BLOCK", about(x, 2), "0 7 0 0 1 0 -9 -9 -9 -9 -9 -9 -9 -9 -9");
        fill(x, 0, 7);
        due.is("3: the tenth of a ROUTINE", x.block(0, 1), FULL);
        due.is("3: BAD ahead of FULL", x.block(0, 0), BAD);
        due.is("3: has(1)", x.has(1), 10);
        due.is("3: last in its order", x.about(9, 4), 8);
        for (int r = 2; r < 6; r++) {
            x.routine();
        }
        fill(x, 1, 8);
        fill(x, 2, 9);
        fill(x, 3, 9);
        due.is("3: of 40", x.has(1), 36);
        fill(x, 4, 3);
        due.is("3: the last of 40", x.block(5, 1), 39);
        due.is("3: the 41st", x.block(5, 1), FULL);
        due.is("3: the 41st elsewhere", x.block(4, 1), FULL);
    }

    private static void promise4(Due due) {
        FallRows x = new FallRows();
        x.routine();
        x.routine();
        x.routine();
        fill(x, 0, 4);
        fill(x, 1, 1);
        due.is("4: BACK", x.end(0, 0, -5, -5, -5, -5), 0);
        due.is("4: TRAP", x.end(0, 1, 99, 99, 99, 99), 0);
        due.is("4: kind told", x.about(0, 2), 1);
        due.is("4: GO", x.end(0, 2, 3, -7, 99, -1), 1);
        due.are("4: GO", about(x, 0), "0 1 2 0 0 1 3 -9 -9 -9 0 -9 -9 -9 -9");
        due.is("4: TEST", x.end(1, 3, 0, 0, -7, 99), 2);
        due.are("4: TEST", about(x, 1), "0 1 3 0 1 2 0 0 -9 -9 0 0 -9 -9 -9");
        due.is("4: TABLE of 1", x.end(2, 4, 1, -1, 99, 99), 1);
        due.is("4: TABLE of 2", x.end(2, 4, 1, 2, -1, -7), 2);
        due.is("4: TABLE of 3", x.end(2, 4, 1, 2, 3, -1), 3);
        due.is("4: TABLE of 4", x.end(2, 4, 1, 2, 3, 3), 4);
        due.are("4: TABLE", about(x, 2), "0 1 4 0 2 4 1 2 3 3 0 0 0 0 -9");
        due.is("4: TABLE of none", x.end(2, 4, -1, 2, 3, 3), BAD);
        due.is("4: TABLE with -2", x.end(2, 4, 1, -2, 3, 3), BAD);
        due.is("4: TABLE, the last one of another ROUTINE", x.end(2, 4, 1, 2, 3, 4), BAD);
        due.is("4: CALL", x.end(3, 5, 0, 1, -7, 99), 1);
        due.are("4: CALL", about(x, 3), "0 1 5 0 3 1 0 -9 -9 -9 0 -9 -9 -9 1");
        due.is("4: CALL of its own ROUTINE", x.end(3, 5, 0, 0, 0, 0), 1);
        due.is("4: CALL of a ROUTINE without BLOCKS", x.end(3, 5, 0, 2, 0, 0), BAD);
        due.is("4: CALL of no ROUTINE", x.end(3, 5, 0, 3, 0, 0), BAD);
        due.is("4: CALL of ROUTINE -1", x.end(3, 5, 0, -1, 0, 0), BAD);
        due.is("4: CALL, a WAY of another ROUTINE", x.end(3, 5, 4, 1, 0, 0), BAD);
        due.is("4: GUARDED", x.end(1, 6, 1, 2, -7, 99), 2);
        due.are("4: GUARDED", about(x, 1), "0 1 6 0 1 2 1 2 -9 -9 0 0 -9 -9 -9");
        due.is("4: GUARDED, WAY 1 is none", x.end(1, 6, 1, 5, 0, 0), BAD);
        due.is("4: TEST, WAY 0 of another ROUTINE", x.end(1, 3, 4, 1, 0, 0), BAD);
        due.is("4: TEST, WAY 1 is -1", x.end(1, 3, 1, -1, 0, 0), BAD);
        due.is("4: GO to none", x.end(1, 2, 5, 0, 0, 0), BAD);
        due.is("4: kind 7", x.end(1, 7, 0, 0, 0, 0), BAD);
        due.is("4: kind -1", x.end(1, -1, 0, 0, 0, 0), BAD);
        due.is("4: BLOCK -1", x.end(-1, 0, 0, 0, 0, 0), BAD);
        due.is("4: BLOCK 5", x.end(5, 0, 0, 0, 0, 0), BAD);
        due.are("4: what is refused changes nothing", about(x, 1), "0 1 6 0 1 2 1 2 -9 -9 0 0 -9 -9 -9");
        x.count(1, 0, 5);
        x.count(1, 1, 6);
        x.end(1, 6, 1, 2, 0, 0);
        due.are("4: COUNTS 0", about(x, 1), "0 1 6 0 1 2 1 2 -9 -9 0 0 -9 -9 -9");
        x.end(3, 2, 0, 0, 0, 0);
        due.is("4: a CALL no more", x.about(3, 14), NONE);
    }

    private static void promise5(Due due) {
        FallRows x = new FallRows();
        x.routine();
        fill(x, 0, 3);
        x.end(0, 3, 1, 2, 0, 0);
        x.end(1, 4, 0, 1, 2, 2);
        x.end(2, 6, 0, 0, 0, 0);
        due.is("5: first", x.count(0, 1, 1000000), 0);
        due.is("5: what it was", x.count(0, 1, 0), 1000000);
        due.is("5: too many", x.count(0, 1, 1000001), BAD);
        due.is("5: below 0", x.count(0, 1, -1), BAD);
        due.is("5: WAY 2 of TEST", x.count(0, 2, 1), BAD);
        due.is("5: WAY -1", x.count(0, -1, 1), BAD);
        due.is("5: BLOCK 3", x.count(3, 0, 1), BAD);
        due.is("5: BLOCK -1", x.count(-1, 0, 1), BAD);
        due.is("5: WAY 3 of TABLE", x.count(1, 3, 8), 0);
        due.is("5: WAY 4 of TABLE", x.count(1, 4, 8), BAD);
        due.is("5: WAY 1 of GUARDED", x.count(2, 1, 9), 0);
        due.is("5: kept", x.about(2, 11), 9);
        due.is("5: kept", x.about(1, 13), 8);
        due.is("5: others not", x.about(1, 12), 0);
        x.end(2, 0, 0, 0, 0, 0);
        due.is("5: BACK has no WAYS", x.count(2, 0, 1), BAD);
    }

    private static void promise6(Due due) {
        FallRows x = new FallRows();
        x.routine();
        x.routine();
        fill(x, 0, 2);
        fill(x, 1, 2);
        due.is("6: first of 0", x.cold(0, true), BAD);
        due.is("6: first of 1", x.cold(2, true), BAD);
        due.is("6: first, not", x.cold(0, false), BAD);
        due.is("6: on", x.cold(3, true), 0);
        due.is("6: on again", x.cold(3, true), 1);
        due.is("6: told", x.about(3, 3), 1);
        due.is("6: off", x.cold(3, false), 1);
        due.is("6: off again", x.cold(3, false), 0);
        due.is("6: told", x.about(3, 3), 0);
        due.is("6: BLOCK 4", x.cold(4, true), BAD);
        due.is("6: BLOCK -1", x.cold(-1, true), BAD);
    }

    private static void promise7(Due due) {
        FallRows x = new FallRows();
        x.routine();
        x.routine();
        fill(x, 0, 1);
        x.block(1, 30);
        x.block(1, 31);
        x.block(1, 32);
        x.end(2, 4, 3, 1, 2, -1);
        x.count(2, 0, 10);
        x.count(2, 1, 11);
        x.count(2, 2, 12);
        x.cold(2, true);
        x.move(2, 2);
        due.are("7: TABLE", about(x, 2), "1 31 4 1 2 3 3 1 2 -9 10 11 12 -9 -9");
        due.is("7: the one that made way", x.about(3, 4), 1);
        x.end(1, 5, 2, 0, 0, 0);
        due.are("7: CALL", about(x, 1), "1 30 5 0 0 1 2 -9 -9 -9 0 -9 -9 -9 0");
        due.is("7: what 15", x.about(2, 15), BAD);
        due.is("7: what -1", x.about(2, -1), BAD);
        due.is("7: BLOCK 4", x.about(4, 0), BAD);
        due.is("7: BLOCK -1", x.about(-1, 0), BAD);
    }

    public static void main(String[] args) {
        Due due = new Due();
        promise1(due);
        promise2(due);
        promise3(due);
        promise4(due);
        promise5(due);
        promise6(due);
        promise7(due);
        due.finish();
    }
}

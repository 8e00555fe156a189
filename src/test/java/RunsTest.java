/** Promises 18 to 26: say, tear, run, ran, passed, learn, pages, differ, has. */
final class RunsTest {
    private static final int BAD = FallRows.BAD, STATE = FallRows.STATE, FULL = FallRows.FULL, NONE = FallRows.NONE;
    private static final int PLAIN = 0, LAID = 1;

    static String ran(FallRows x, int how) {
        StringBuilder all = new StringBuilder();
        for (int what = 0; what <= 8; what++) {
            all.append(what == 0 ? "" : " ").append(x.ran(how, what));
        }
        return all.toString();
    }

    static String passed(FallRows x, int how) {
        StringBuilder all = new StringBuilder();
        for (int i = 0; i < x.ran(how, 1); i++) {
            all.append(i == 0 ? "" : " ").append(x.passed(how, i));
        }
        return all.toString();
    }

    /** Both sorts of run from a BLOCK on pass the same and end alike. */
    private static void both(Due due, String what, FallRows x, int block, int how, String passed) {
        for (int sort = PLAIN; sort <= LAID; sort++) {
            due.is(what + ", sort " + sort, x.run(block, sort), how);
            due.are(what + ", sort " + sort, passed(x, sort), passed);
        }
    }

    private static void promises18and19(Due due) {
        FallRows x = LayoutTest.of(1, 1, 1, 1, 1);
        x.end(0, 4, 1, 2, 3, 4);
        for (int b = 1; b <= 4; b++) {
            x.end(b, 2, 0, 0, 0, 0);
        }
        due.is("18: n 0", x.say(1, 0), BAD);
        due.is("18: n 9", x.say(1, 9), BAD);
        due.is("18: n -1", x.say(1, -1), BAD);
        due.is("18: three", x.say(0x7FFFFFFFFF030201L, 3), 3);
        due.is("18: eight", x.say(0xFF00000000000002L, 8), 11);
        due.is("20: run", x.run(0, PLAIN), FallRows.LONG);
        due.are("18: the highest first", passed(x, PLAIN).substring(0, 43),
            "0 4 0 3 0 2 0 4 0 1 0 1 0 1 0 1 0 1 0 1 0 3");
        due.is("19: tear()", x.tear(), 11);
        due.is("19: tear()", x.tear(), 0);
        due.is("19: has(2)", x.has(2), 0);
        for (int i = 8; i <= 192; i += 8) {
            due.is("18: " + i, x.say(-1, 8), i);
        }
        due.is("18: up to 199", x.say(0, 7), 199);
        due.is("18: not two more", x.say(0, 2), FULL);
        due.is("18: BAD ahead of FULL", x.say(0, 9), BAD);
        due.is("18: nothing came", x.has(2), 199);
        due.is("18: one more", x.say(0, 1), 200);
        due.is("18: none more", x.say(0, 1), FULL);
        due.is("19: tear()", x.tear(), 200);
    }

    private static void choices(Due due) {
        FallRows x = LayoutTest.of(1, 1, 1);
        x.end(0, 3, 1, 2, 0, 0);
        both(due, "20: behind THE TAPE's end", x, 0, FallRows.BACK, "0 1");
        due.is("21: CHOICES", x.ran(PLAIN, 2), 1);
        x.say(254, 1);
        both(due, "20: TEST, even", x, 0, FallRows.BACK, "0 1");
        x.tear();
        x.say(255, 1);
        both(due, "20: TEST, odd", x, 0, FallRows.BACK, "0 2");
        x.end(0, 6, 1, 2, 0, 0);
        both(due, "20: GUARDED fails", x, 0, FallRows.BACK, "0 2");
        due.are("21: it takes a CHOICE, no JUMP", ran(x, LAID), "0 2 1 0 50 0 0 0 1");
        x.tear();
        x.say(253, 1);
        both(due, "20: GUARDED goes on", x, 0, FallRows.BACK, "0 1");
        x.end(0, 4, 2, 1, 0, -1);
        x.end(1, 1, 0, 0, 0, 0);
        both(due, "20: TABLE, 253 modulo 3", x, 0, FallRows.TRAP, "0 1");
        x.tear();
        x.say(254, 1);
        x.end(2, 3, 0, 1, 0, 0);
        both(due, "20: each run begins THE TAPE anew", x, 0, FallRows.LONG, twoAnd198());
    }

    /** 254 modulo 3 leads to 0, then 0 always to 2, and 2 to 0. */
    private static String twoAnd198() {
        StringBuilder all = new StringBuilder("0");
        for (int i = 1; i < 200; i++) {
            all.append(i % 2 == 1 ? " 0" : " 2");
        }
        return all.toString();
    }

    private static void calls(Due due) {
        FallRows x = LayoutTest.of(1, 1, 1);
        x.routine();
        x.block(1, 1);
        x.block(1, 1);
        x.end(0, 5, 2, 1, 0, 0);
        x.end(3, 5, 4, 0, 0, 0);
        both(due, "20: DEEP", x, 0, FallRows.DEEP, "0 3 0 3 0 3 0 3 0");
        due.are("21: DEEP", ran(x, PLAIN), "2 9 0 8 0 0 0 0 0");
        due.are("21: DEEP", ran(x, LAID), "2 9 0 8 50 0 0 0 1");
        x.end(3, 2, 4, 0, 0, 0);
        both(due, "20: BACK to the CALL", x, 0, FallRows.BACK, "0 3 4 2");
        due.are("21: one open", ran(x, PLAIN), "0 4 0 1 0 0 0 0 0");
        due.are("21: the JUMP behind the CALL", ran(x, LAID), "0 4 0 1 52 1 0 0 1");
        both(due, "20: from the midst, without a CALL", x, 4, FallRows.BACK, "4");
        due.is("21: none open", x.ran(PLAIN, 3), 0);
        x.swap(1, 2);
        both(due, "20: BACK to what is NEXT", x, 0, FallRows.BACK, "0 3 4 2");
        due.are("21: no JUMP", ran(x, LAID), "0 4 0 1 50 0 0 0 1");
        x.end(4, 1, 0, 0, 0, 0);
        both(due, "20: TRAP in a CALL", x, 0, FallRows.TRAP, "0 3 4");
        x = LayoutTest.of(1, 1);
        x.routine();
        x.block(1, 1);
        x.end(0, 5, 0, 1, 0, 0);
        due.is("20: LONG at BACK", x.run(0, PLAIN), FallRows.LONG);
        due.is("20: LONG at BACK", x.run(0, LAID), FallRows.LONG);
        due.are("21: LONG at BACK", ran(x, LAID), "3 200 0 1 250 100 0 0 1");
        due.is("23: LONG at BACK", x.learn(), 200);
        due.is("23: CALL's WAY", x.about(0, 10), 100);
    }

    /** BLOCK 0 passes itself 199 times, so that the 200th one is BLOCK 1, of some END. */
    private static void atTwoHundred(Due due) {
        int[] kinds = {0, 1, 5};
        int[] ends = {FallRows.BACK, FallRows.TRAP, FallRows.LONG};
        for (int i = 0; i < kinds.length; i++) {
            FallRows x = LayoutTest.of(1, 1, 1);
            x.end(0, 3, 0, 1, 0, 0);
            x.end(1, kinds[i], 2, 0, 0, 0);
            for (int bytes = 0; bytes < 198; bytes++) {
                x.say(0, 1);
            }
            x.say(1, 1);
            due.is("20: the 200th", x.run(0, PLAIN), ends[i]);
            due.is("20: the 200th", x.run(0, LAID), ends[i]);
            due.is("21: passed", x.ran(LAID, 1), 200);
            due.is("22: the 200th", x.passed(LAID, 199), 1);
            due.is("22: the 201st", x.passed(LAID, 200), NONE);
        }
    }

    private static void costs(Due due) {
        FallRows x = LayoutTest.of(60, 60, 60, 1);
        x.end(0, 3, 2, 3, 0, 0);
        x.end(2, 3, 3, 3, 0, 0);
        x.end(3, 2, 1, 0, 0, 0);
        x.say(0x0001, 2);
        both(due, "20: a TEST that jumps, one that does not", x, 0, FallRows.BACK, "0 2 3 1");
        due.are("21: COST", ran(x, LAID), "0 4 2 0 156 1 1 1 3");
        due.are("21: no COST", ran(x, PLAIN), "0 4 2 0 0 0 0 0 0");
        x.tear();
        x.say(0x0100, 2);
        both(due, "20: a JUMP behind a TEST JUMP", x, 0, FallRows.BACK, "0 3 1");
        due.are("21: COST", ran(x, LAID), "0 3 1 0 155 2 0 1 3");
        x.set(2, 0);
        due.is("21: k is that of the run", x.ran(LAID, 4), 155);
        due.is("20: run", x.run(0, LAID), FallRows.BACK);
        due.are("21: k 0", ran(x, LAID), "0 3 1 0 155 2 0 1 3");
        x = LayoutTest.of(60, 60, 60, 1);
        x.end(0, 3, 1, 3, 0, 0);
        x.say(1, 1);
        due.is("20: a TURNED one", x.run(0, LAID), FallRows.BACK);
        due.are("21: a TURNED one jumps", ran(x, LAID), "0 2 1 0 103 0 1 0 2");
        x.tear();
        due.is("20: a TURNED one", x.run(0, LAID), FallRows.BACK);
        due.are("21: a TURNED one stays", ran(x, LAID), "0 2 1 0 51 0 0 1 1");
    }

    /** LONG ones of each kind, on and back, and a TABLE of one. */
    private static void farAway(Due due) {
        FallRows x = LayoutTest.of(1, 200, 1, 200, 1);
        x.end(0, 3, 4, 2, 0, 0);
        x.end(2, 3, 3, 0, 0, 0);
        x.end(4, 4, 2, -1, 0, 0);
        x.say(0x01010009, 4);
        both(due, "20: LONG ones", x, 0, FallRows.BACK, "0 2 0 4 2 3");
        due.is("17: LONG ones", x.told(3), 3);
        due.are("21: LONG ones", ran(x, LAID), "0 6 5 0 160 1 2 2 3");
        x.end(0, 2, 3, 0, 0, 0);
        both(due, "20: a LONG JUMP", x, 0, FallRows.BACK, "0 3");
        due.are("21: a LONG JUMP", ran(x, LAID), "0 2 0 0 102 1 0 0 2");
    }

    private static void promises20to22(Due due) {
        choices(due);
        farAway(due);
        calls(due);
        atTwoHundred(due);
        costs(due);
        FallRows x = LayoutTest.of(1, 1);
        due.is("20: BLOCK 2", x.run(2, 0), BAD);
        due.is("20: BLOCK -1", x.run(-1, 1), BAD);
        due.is("20: how 2", x.run(0, 2), BAD);
        due.is("20: how -1", x.run(0, -1), BAD);
        due.is("21: none of a refused one", x.ran(0, 0), NONE);
        x.run(1, 1);
        due.is("21: none of that sort", x.ran(0, 1), NONE);
        due.is("21: one of that sort", x.ran(1, 1), 1);
        due.is("22: none of that sort", x.passed(0, 0), NONE);
        due.is("22: one of that sort", x.passed(1, 0), 1);
        due.is("21: how 2", x.ran(2, 0), BAD);
        due.is("21: how -1", x.ran(-1, 0), BAD);
        due.is("21: what 9", x.ran(1, 9), BAD);
        due.is("21: what 9 without a run", x.ran(0, 9), BAD);
        due.is("21: what -1", x.ran(1, -1), BAD);
        due.is("22: how 2", x.passed(2, 0), BAD);
        due.is("22: how -1", x.passed(-1, 0), BAD);
        due.is("22: -1", x.passed(1, -1), NONE);
        due.is("22: 1", x.passed(1, 1), NONE);
    }

    private static void promise23(Due due) {
        FallRows x = LayoutTest.of(1, 1, 1, 1);
        x.routine();
        x.block(1, 1);
        x.end(0, 3, 1, 1, 0, 0);
        x.end(1, 4, 0, 0, 2, -1);
        x.end(2, 5, 3, 1, 0, 0);
        x.end(3, 6, 3, 0, 0, 0);
        due.is("23: none", x.learn(), STATE);
        x.run(0, LAID);
        due.is("23: none that was PLAIN", x.learn(), STATE);
        x.say(0x0100010100020000L, 8);
        x.say(0xFF01020000000000L, 3 + 5);
        x.count(0, 0, 77);
        x.count(3, 1, 78);
        due.is("23: run", x.run(0, PLAIN), FallRows.LONG);
        x.tear();
        x.run(0, LAID);
        due.is("23: learn()", x.learn(), 200);
        due.is("23: TEST", x.about(0, 10), 1);
        due.is("23: TEST", x.about(0, 11), 3);
        due.is("23: TABLE", x.about(1, 10), 1);
        due.is("23: TABLE", x.about(1, 11), 1);
        due.is("23: TABLE", x.about(1, 12), 2);
        due.is("23: CALL", x.about(2, 10), 2);
        due.is("23: GUARDED", x.about(3, 10), 200 - 4 - 4 - 2 - 2 - 1);
        due.is("23: GUARDED", x.about(3, 11), 1);
        x.count(0, 0, 77);
        due.is("23: again", x.learn(), 200);
        due.is("23: again", x.about(0, 10), 1);
        x.run(3, PLAIN);
        due.is("23: COUNTS of others become 0", x.learn(), 200);
        due.is("23: COUNTS of others become 0", x.about(0, 10), 0);
        due.is("23: a refused END", x.end(0, 3, 1, 9, 0, 0), BAD);
        due.is("23: a refused BLOCK", x.block(0, 0), BAD);
        x.move(1, 2);
        x.cold(1, true);
        x.routine();
        due.is("23: goes on", x.learn(), 200);
        x.end(4, 0, 0, 0, 0, 0);
        due.is("23: an END since", x.learn(), STATE);
        due.is("21: the run is told still", x.ran(PLAIN, 1), 200);
        x.run(0, LAID);
        due.is("23: a LAID run is none", x.learn(), STATE);
        x.run(4, PLAIN);
        due.is("23: another one", x.learn(), 1);
        x.block(0, 1);
        due.is("23: a BLOCK since", x.learn(), STATE);
        x.run(4, PLAIN);
        due.is("23: differ() is none", x.differ(), NONE);
        due.is("23: differ() is none", x.learn(), 1);
    }

    private static void promise24(Due due) {
        FallRows x = LayoutTest.of(64, 64, 64, 64, 64, 1);
        x.set(1, 16);
        due.is("24: none", x.pages(0), STATE);
        due.is("24: BAD ahead of STATE", x.pages(9), BAD);
        due.is("24: k -1", x.pages(-1), BAD);
        x.run(0, PLAIN);
        due.is("24: none that was LAID", x.pages(0), STATE);
        x.end(0, 4, 1, 2, 3, -1);
        x.end(1, 2, 0, 0, 0, 0);
        x.end(2, 2, 0, 0, 0, 0);
        x.end(3, 2, 5, 0, 0, 0);
        x.say(0x000100020000L, 6);
        x.say(2, 1);
        x.run(0, LAID);
        due.are("22: what it passed", passed(x, LAID), "0 1 0 2 0 1 0 3 5");
        due.are("24: where these lie", x.laid(0, 0) / 64 + " " + x.laid(1, 0) / 64 + " " + x.laid(2, 0) / 64 + " "
            + x.laid(3, 0) / 64 + " " + x.laid(5, 0) / 64, "0 1 2 3 6");
        int[] want = {9, 9, 6, 5, 5, 5, 5, 5, 5};
        for (int k = 0; k <= 8; k++) {
            due.is("24: k " + k, x.pages(k), want[k]);
        }
        due.is("21: missed with k 4", x.ran(LAID, 8), 5);
        x.set(2, 2);
        due.is("24: not that of set()", x.pages(3), 5);
        x.run(0, LAID);
        due.is("21: missed with k 2", x.ran(LAID, 8), 6);
        x.set(1, 1);
        x.move(5, 1);
        due.is("24: as the run was", x.pages(2), 6);
        due.is("24: k 9", x.pages(9), BAD);
        due.is("24: k -1", x.pages(-1), BAD);
    }

    private static void promise25(Due due) {
        FallRows x = LayoutTest.of(200, 1, 130, 7, 99);
        x.routine();
        x.block(1, 50);
        x.block(1, 90);
        x.end(0, 3, 3, 4, 0, 0);
        x.end(1, 4, 0, 2, 3, 4);
        x.end(2, 5, 0, 1, 0, 0);
        x.end(3, 6, 1, 2, 0, 0);
        x.end(4, 2, 1, 0, 0, 0);
        x.end(5, 3, 6, 5, 0, 0);
        x.say(0xFF0102FF03040506L, 8);
        x.say(0x0701FFFF0203FF01L, 8);
        x.run(4, PLAIN);
        x.run(6, LAID);
        String one = ran(x, PLAIN);
        String other = ran(x, LAID);
        for (int align = 1; align <= 16; align *= 2) {
            x.set(1, align);
            x.set(0, align / 4 % 2);
            x.cold(2, align == 4);
            x.cold(6, true);
            x.order(0, align % 4);
            due.is("25: ALIGN " + align, x.differ(), NONE);
        }
        due.are("25: no run that ran() tells", ran(x, PLAIN), one);
        due.are("25: no run that ran() tells", ran(x, LAID), other);
        due.is("25: what passed", x.passed(LAID, 0), 6);
    }

    private static void promise26(Due due) {
        FallRows x = LayoutTest.of(1, 1, 1);
        x.routine();
        x.say(0, 5);
        x.set(0, 1);
        x.set(1, 8);
        x.set(2, 7);
        x.move(1, 2);
        x.move(1, 1);
        int[] want = {2, 3, 5, 1, 8, 7, 2};
        for (int what = 0; what < want.length; what++) {
            due.is("26: has(" + what + ")", x.has(what), want[what]);
        }
        due.is("26: has(7)", x.has(7), BAD);
        due.is("26: has(-1)", x.has(-1), BAD);
    }

    public static void main(String[] args) {
        Due due = new Due();
        promises18and19(due);
        promises20to22(due);
        promise23(due);
        promise24(due);
        promise25(due);
        promise26(due);
        due.finish();
    }
}

/** The boundaries that 'Terms' name for runs, and promises 18 to 26: one test for each sentence. */
final class RunBoundsTest {
    private static final int BAD = FallRows.BAD, STATE = FallRows.STATE, FULL = FallRows.FULL, NONE = FallRows.NONE;
    private static final int BELOW = Integer.MIN_VALUE, ABOVE = Integer.MAX_VALUE;
    private static final int TRAP = 1, GO = 2, TEST = 3, TABLE = 4, CALL = 5, GUARDED = 6;
    private static final int PLAIN = 0, LAID = 1;

    /** Both sorts of run, each on a new object. */
    private static void both(Bound b, String what, Bound.Told state, int from, int how, String passed) {
        for (int sort = PLAIN; sort <= LAID; sort++) {
            FallRows x = Bound.made(state);
            b.is(what + ", sort " + sort, x.run(from, sort), how);
            b.are(what + ", sort " + sort, RunsTest.passed(x, sort), passed);
        }
    }

    /** As both(), for long runs: how many it passed, and the latest of these. */
    private static void passesSoMany(Bound b, String what, Bound.Told state, int how, int blocks, int latest) {
        for (int sort = PLAIN; sort <= LAID; sort++) {
            FallRows x = Bound.made(state);
            b.is(what + ", sort " + sort, x.run(0, sort), how);
            b.is(what + ", sort " + sort + ", told", x.ran(sort, 0), how);
            b.is(what + ", sort " + sort + ", BLOCKS", x.ran(sort, 1), blocks);
            b.is(what + ", sort " + sort + ", the latest", x.passed(sort, blocks - 1), latest);
            b.is(what + ", sort " + sort + ", none more", x.passed(sort, blocks), NONE);
        }
    }

    // ---- Terms: CHOICES

    private static void tapeOf200(Due due) {
        Bound b = new Bound(due, "1", "the next byte of THE TAPE (200 at most; 0 behind its end)");
        b.answers("192 and 8", States.tape(192, 1), x -> x.say(0, 8), 200);
        b.refuses("193 and 8", States.tape(193, 1), x -> x.say(0, 8), FULL);
        b.answers("199 and 1", States.tape(199, 1), x -> x.say(0, 1), 200);
        b.refuses("199 and 2", States.tape(199, 1), x -> x.say(0, 2), FULL);
        b.refuses("200 and 1", States.tape(200, 1), x -> x.say(0, 1), FULL);
        b.refuses("200 and 8", States::full, x -> x.say(-1, 8), FULL);
        // BLOCKS 1 and 0 by odd and even: the one that comes behind n ones is the first 0 behind THE TAPE's end.
        Bound.Told reads = States.one(2).then(States.end(0, TEST, 0, 1)).then(States.end(1, TEST, 0, 1));
        for (int n : new int[] {0, 1, 7, 8, 9, 198}) {
            FallRows x = Bound.made(reads.then(States.tape(n, 255)));
            b.is("a run of " + n, x.run(0, PLAIN), FallRows.LONG);
            b.is("the last byte of " + n, x.passed(PLAIN, n), n == 0 ? 0 : 1);
            b.is("behind the end of " + n, x.passed(PLAIN, n + 1), 0);
            x.run(0, LAID);
            b.is("the last byte of " + n + ", LAID", x.passed(LAID, n), n == 0 ? 0 : 1);
            b.is("behind the end of " + n + ", LAID", x.passed(LAID, n + 1), 0);
        }
        FallRows x = Bound.made(reads.then(States.tape(199, 0)).then(y -> y.say(1, 1)));
        x.run(0, PLAIN);
        b.is("CHOICES", x.ran(PLAIN, 2), 200);
        x.learn();
        b.are("the 200th byte is a CHOICE, too", x.about(0, 10) + " " + x.about(0, 11), "199 1");
    }

    private static void zeroBehindTheEnd(Due due) {
        Bound b = new Bound(due, "1", "0 behind its end");
        both(b, "TEST", States.one(3).then(States.end(0, TEST, 1, 2)), 0, FallRows.BACK, "0 1");
        both(b, "TABLE", States.one(3).then(States.end(0, TABLE, 1, 2)), 0, FallRows.BACK, "0 1");
        both(b, "GUARDED", States.one(3).then(States.end(0, GUARDED, 1, 2)), 0, FallRows.BACK, "0 1");
        Bound.Told torn = States.one(3).then(States.end(0, TEST, 1, 2)).then(States.tape(9, 255)).then(x -> x.tear());
        both(b, "of a TAPE that was torn", torn, 0, FallRows.BACK, "0 1");
        Bound.Told anew = States.one(4).then(States.end(0, TEST, 1, 2)).then(States.end(1, TEST, 3, 2))
            .then(States.tape(9, 255)).then(x -> x.tear()).then(x -> x.say(2, 1));
        both(b, "of a shorter one", anew, 0, FallRows.BACK, "0 1 3");
        b.answers("it counts as a CHOICE", States.one(2).then(States.end(0, TEST, 1, 1)).then(x -> x.run(0, 0)),
            x -> x.ran(0, 2), 1);
    }

    private static void testsByEven(Due due) {
        Bound b = new Bound(due, "1", "TEST WAY 0, if it is even, else 1");
        for (int choice : new int[] {0, 1, 2, 127, 128, 254, 255}) {
            String want = choice % 2 == 0 ? "0 1" : "0 2";
            Bound.Told one = States.one(3).then(States.end(0, TEST, 1, 2)).then(x -> x.say(choice, 1));
            both(b, "WAY 0 NEXT, " + choice, one, 0, FallRows.BACK, want);
            both(b, "WAY 1 NEXT, " + choice, one.then(x -> x.swap(1, 2)), 0, FallRows.BACK, want);
            Bound.Told far = States.one(4).then(States.end(0, TEST, 1, 2)).then(x -> x.say(choice, 1));
            both(b, "none NEXT, " + choice, far.then(x -> x.move(3, 1)), 0, FallRows.BACK, want);
        }
    }

    private static void tablesByModulo(Due due) {
        Bound b = new Bound(due, "1", "TABLE WAY choice modulo how many");
        for (int n = 1; n <= 4; n++) {
            int ways = n;
            for (int choice : new int[] {0, 1, n - 1, n, n + 1, 127, 128, 254, 255}) {
                Bound.Told table = States.one(5)
                    .then(x -> x.end(0, TABLE, 1, ways > 1 ? 2 : -1, ways > 2 ? 3 : -1, ways > 3 ? 4 : -1))
                    .then(x -> x.say(choice, 1));
                both(b, choice + " of " + n, table, 0, FallRows.BACK, "0 " + (1 + choice % n));
            }
        }
    }

    private static void guardedBy255(Due due) {
        Bound b = new Bound(due, "1", "GUARDED WAY 1, if it is 255, else 0");
        for (int choice : new int[] {0, 1, 127, 128, 253, 254, 255}) {
            String want = choice == 255 ? "0 2" : "0 1";
            Bound.Told one = States.one(3).then(States.end(0, GUARDED, 1, 2)).then(x -> x.say(choice, 1));
            both(b, "NEXT, " + choice, one, 0, FallRows.BACK, want);
            both(b, "not NEXT, " + choice, one.then(x -> x.swap(1, 2)), 0, FallRows.BACK, want);
        }
        Bound.Told two = States.one(3).then(States.end(0, GUARDED, 0, 1)).then(States.end(1, GUARDED, 0, 2));
        both(b, "each takes one", two.then(x -> x.say(0x00FFFF, 3)), 0, FallRows.BACK, "0 0 1 2");
    }

    // ---- Terms: how a run ends

    private static void backWithoutACall(Due due) {
        Bound b = new Bound(due, "1",
            "BACK goes on with the WAY of the CALL that is open latest; without one the run ends: BACK.");
        both(b, "without one", States.one(1), 0, FallRows.BACK, "0");
        Bound.Told calls = States.routines(3).then(States.blocks(0, 2)).then(States.blocks(1, 2)).then(States.blocks(2, 1))
            .then(States.end(0, CALL, 1, 1)).then(States.end(2, CALL, 3, 2));
        both(b, "the latest of two, then the other one, then none", calls, 0, FallRows.BACK, "0 2 4 3 1");
        both(b, "only one", calls, 2, FallRows.BACK, "2 4 3");
        both(b, "in the midst, none", calls, 4, FallRows.BACK, "4");
        both(b, "the WAY is a CALL again", calls.then(States.end(1, CALL, 1, 2)).then(States.end(4, TRAP)), 0,
            FallRows.TRAP, "0 2 4");
    }

    private static void trap(Due due) {
        Bound b = new Bound(due, "1", "It ends: TRAP at such a BLOCK");
        both(b, "the first", States.one(1).then(States.end(0, TRAP)), 0, FallRows.TRAP, "0");
        both(b, "in a CALL", States.one(2).then(x -> x.routine()).then(States.blocks(1, 1)).then(States.end(2, TRAP))
            .then(States.end(0, CALL, 1, 1)), 0, FallRows.TRAP, "0 2");
    }

    /** BLOCK 0 opens a CALL (by BLOCK 1) of its own ROUTINE for each even CHOICE, and is through at an odd one. */
    private static Bound.Told nested(int calls) {
        return States.one(3).then(States.end(0, TEST, 1, 2)).then(States.end(1, CALL, 2, 0))
            .then(States.tape(calls, 0)).then(x -> x.say(1, 1));
    }

    private static void deep(Due due) {
        Bound b = new Bound(due, "1", "DEEP at a CALL when 8 are open");
        for (int n : new int[] {0, 1, 7, 8}) {
            passesSoMany(b, n + " CALLS", nested(n), FallRows.BACK, 3 * n + 2, 2);
            b.answers(n + " CALLS, open at most", nested(n).then(x -> x.run(0, PLAIN)), x -> x.ran(PLAIN, 3), n);
            b.answers(n + " CALLS, open at most, LAID", nested(n).then(x -> x.run(0, LAID)), x -> x.ran(LAID, 3), n);
        }
        for (int n : new int[] {9, 10, 100}) {
            passesSoMany(b, n + " CALLS", nested(n), FallRows.DEEP, 18, 1);
            b.answers(n + " CALLS, open at most", nested(n).then(x -> x.run(0, PLAIN)), x -> x.ran(PLAIN, 3), 8);
            b.answers(n + " CALLS, open at most, LAID", nested(n).then(x -> x.run(0, LAID)), x -> x.ran(LAID, 3), 8);
            b.answers(n + " CALLS, COUNT of WAYS that were not taken",
                nested(n).then(x -> x.run(0, PLAIN)).then(x -> x.learn()), x -> x.about(1, 10), 0);
        }
        // One behind the other: never two are open, so that more than 8 are not DEEP.
        Bound.Told flat = States.routines(2).then(States.blocks(0, 2)).then(States.blocks(1, 1))
            .then(States.end(0, CALL, 1, 1)).then(States.end(1, TEST, 0, 1));
        FallRows x = Bound.made(flat);
        b.is("one behind the other", x.run(0, PLAIN), FallRows.LONG);
        b.is("one behind the other", x.ran(PLAIN, 3), 1);
        // 8 are open, one comes BACK, and another one is opened.
        Bound.Told again = States.one(4).then(States.end(0, TEST, 1, 2)).then(States.end(1, CALL, 3, 0))
            .then(States.end(3, TEST, 2, 1)).then(States.tape(8, 0));
        again = again.then(y -> y.say(0x010101, 3)).then(States.tape(8, 0));
        for (int sort = PLAIN; sort <= LAID; sort++) {
            x = Bound.made(again);
            b.is("closed and opened again, sort " + sort, x.run(0, sort), FallRows.BACK);
            b.is("closed and opened again, sort " + sort, x.ran(sort, 3), 8);
            b.is("closed and opened again, sort " + sort, x.ran(sort, 1), 16 + 2 + 2 + 2 + 16);
        }
    }

    /** BLOCK 0 passes n times, then BLOCK 1. */
    private static Bound.Told passes(int n) {
        return States.one(3).then(States.end(0, TEST, 0, 1)).then(States.tape(n - 1, 0)).then(x -> x.say(1, 1));
    }

    private static void longRuns(Due due) {
        Bound b = new Bound(due, "1", "LONG, when 200 BLOCKS were passed, and another one would be.");
        int[] kinds = {0, TRAP};
        for (int kind : kinds) {
            Bound.Told end = States.end(1, kind);
            passesSoMany(b, "the 199th, kind " + kind, passes(198).then(end), kind, 199, 1);
            passesSoMany(b, "the 200th, kind " + kind, passes(199).then(end), kind, 200, 1);
            passesSoMany(b, "the 201st, kind " + kind, passes(200).then(end), FallRows.LONG, 200, 0);
        }
        for (int kind : new int[] {GO, TEST, TABLE, CALL, GUARDED}) {
            Bound.Told end = x -> x.end(1, kind, 2, kind == CALL ? 0 : 2, 2, 2);
            passesSoMany(b, "the 200th goes on, kind " + kind, passes(199).then(end), FallRows.LONG, 200, 1);
            if (kind != CALL) {
                passesSoMany(b, "the 199th goes on, kind " + kind, passes(198).then(end), FallRows.BACK, 200, 2);
            }
        }
        passesSoMany(b, "without an end", States.one(1).then(States.end(0, GO, 0)), FallRows.LONG, 200, 0);
    }

    /** BLOCK 0 passes n times, BLOCK 1 opens one CALL, and BLOCK 2 of ROUTINE 1 CALLS itself till it is DEEP. */
    private static Bound.Told deepAt(int n) {
        return States.routines(2).then(States.blocks(0, 2)).then(States.blocks(1, 1)).then(States.end(0, TEST, 0, 1))
            .then(States.end(1, CALL, 1, 1)).then(States.end(2, CALL, 2, 1)).then(States.tape(n - 1, 0))
            .then(x -> x.say(1, 1));
    }

    private static void deepOrLong(Due due) {
        Bound b = new Bound(due, "1",
            "DEEP at a CALL when 8 are open; LONG, when 200 BLOCKS were passed, and another one would be.");
        passesSoMany(b, "DEEP at the 199th", deepAt(190), FallRows.DEEP, 199, 2);
        passesSoMany(b, "DEEP at the 200th", deepAt(191), FallRows.DEEP, 200, 2);
        passesSoMany(b, "DEEP would be the 201st", deepAt(192), FallRows.LONG, 200, 2);
        b.answers("8 are open then", deepAt(192).then(x -> x.run(0, PLAIN)), x -> x.ran(PLAIN, 3), 8);
        // BACK at the 200th BLOCK goes on with a WAY: another one would be passed.
        Bound.Told back = States.routines(2).then(States.blocks(0, 1)).then(States.blocks(1, 1))
            .then(States.end(0, CALL, 0, 1));
        passesSoMany(b, "BACK to a CALL at the 200th", back, FallRows.LONG, 200, 1);
    }

    // ---- Terms: LAID RUNS and COST

    private static String cost(Bound.Told state) {
        FallRows x = Bound.made(state);
        x.run(0, LAID);
        return RunsTest.ran(x, LAID);
    }

    private static void choicesOfLaidRuns(Due due) {
        Bound b = new Bound(due, "2",
            "a TEST JUMP jumps by an even one, a TURNED one by an odd one; a JUMP behind a TEST JUMP takes none");
        Bound.Told turned = States.one(3).then(States.end(0, TEST, 1, 2));
        b.are("a TURNED one, even", cost(turned.then(x -> x.say(254, 1))), "0 2 1 0 51 0 0 1 1");
        b.are("a TURNED one, odd", cost(turned.then(x -> x.say(255, 1))), "0 2 1 0 53 0 1 0 1");
        Bound.Told straight = turned.then(x -> x.swap(1, 2));
        b.are("a TEST JUMP, even", cost(straight.then(x -> x.say(254, 1))), "0 2 1 0 53 0 1 0 1");
        b.are("a TEST JUMP, odd", cost(straight.then(x -> x.say(255, 1))), "0 2 1 0 51 0 0 1 1");
        Bound.Told far = States.one(4).then(States.end(0, TEST, 1, 2)).then(x -> x.move(3, 1));
        b.are("ahead of a JUMP, even", cost(far.then(x -> x.say(254, 1))), "0 2 1 0 53 0 1 0 1");
        b.are("ahead of a JUMP, odd", cost(far.then(x -> x.say(255, 1))), "0 2 1 0 53 1 0 1 1");
        b.are("both WAYS NEXT, even", cost(States.one(2).then(States.end(0, TEST, 1, 1))), "0 2 1 0 53 0 1 0 1");
        b.are("both WAYS NEXT, odd", cost(States.one(2).then(States.end(0, TEST, 1, 1)).then(x -> x.say(1, 1))),
            "0 2 1 0 51 0 0 1 1");
    }

    private static void otherCosts(Due due) {
        Bound b = new Bound(due, "2", "of each JUMP 2, of a TEST (each kind) 1, 2 more if it jumps");
        b.are("GO to NEXT", cost(States.one(2).then(States.end(0, GO, 1))), "0 2 0 0 50 0 0 0 1");
        b.are("GO on", cost(States.one(3).then(States.end(0, GO, 2))), "0 2 0 0 52 1 0 0 1");
        b.are("TABLE", cost(States.one(3).then(States.end(0, TABLE, 2, 2))), "0 2 1 0 50 0 0 0 1");
        b.are("GUARDED, NEXT", cost(States.one(3).then(States.end(0, GUARDED, 1, 2))), "0 2 1 0 50 0 0 0 1");
        b.are("GUARDED, not NEXT", cost(States.one(3).then(States.end(0, GUARDED, 2, 1))), "0 2 1 0 52 1 0 0 1");
        b.are("GUARDED fails", cost(States.one(3).then(States.end(0, GUARDED, 2, 1)).then(x -> x.say(255, 1))),
            "0 2 1 0 50 0 0 0 1");
        Bound.Told call = States.routines(2).then(States.blocks(0, 3)).then(States.blocks(1, 1));
        b.are("CALL, NEXT", cost(call.then(States.end(0, CALL, 1, 1))), "0 3 0 1 50 0 0 0 1");
        b.are("CALL, not NEXT", cost(call.then(States.end(0, CALL, 2, 1))), "0 3 0 1 52 1 0 0 1");
        b.are("200 JUMPS", cost(States.one(1).then(States.end(0, GO, 0))), "3 200 0 0 450 200 0 0 1");
    }

    private static Bound.Told sizes(int... sizes) {
        return States.routines(1).then(x -> {
            for (int size : sizes) {
                x.block(0, size);
            }
        });
    }

    private static void pageOf64(Due due) {
        Bound b = new Bound(due, "2", "of each PAGE (address / 64) that a passed BLOCK begins in");
        Bound.Told at63 = sizes(63, 1, 1).then(States.end(0, GO, 1)).then(States.end(1, GO, 2));
        b.answers("at 63 and 64", at63.then(x -> x.run(0, LAID)), x -> x.ran(LAID, 8), 2);
        b.answers("at 63", sizes(63, 1).then(States.end(0, GO, 1)).then(x -> x.run(0, LAID)), x -> x.ran(LAID, 8), 1);
        b.answers("at 64", sizes(64, 1).then(States.end(0, GO, 1)).then(x -> x.run(0, LAID)), x -> x.ran(LAID, 8), 2);
        b.answers("at 127", sizes(127, 1).then(States.end(0, GO, 1)).then(x -> x.run(0, LAID)), x -> x.ran(LAID, 8), 2);
        Bound.Told two = sizes(64, 63, 1).then(States.end(0, GO, 1)).then(States.end(1, GO, 2));
        b.answers("at 64 and 127", two.then(x -> x.run(0, LAID)), x -> x.ran(LAID, 8), 2);
        Bound.Told three = sizes(64, 64, 1).then(States.end(0, GO, 1)).then(States.end(1, GO, 2));
        b.answers("at 64 and 128", three.then(x -> x.run(0, LAID)), x -> x.ran(LAID, 8), 3);
        b.answers("where it begins alone counts", sizes(200).then(x -> x.run(0, LAID)), x -> x.ran(LAID, 8), 1);
    }

    /** 9 BLOCKS at 0, 64, .. 512, one PAGE each, that go round; without the last ones a ring of fewer. */
    private static Bound.Told ring(int pages) {
        return States.routines(1).then(x -> {
            for (int i = 0; i < 9; i++) {
                x.block(0, i == pages - 1 ? 50 : 64);
            }
            for (int i = 0; i < 9; i++) {
                x.end(i, GO, i >= pages - 1 ? 0 : i + 1, 0, 0, 0);
            }
            x.run(0, LAID);
        });
    }

    private static void lastKPages(Due due) {
        Bound b = new Bound(due, "2",
            "that is not one of the last k such, 50 (the latest one counts anew as it is touched; k 0 .. 8; 4 "
                + "at first)");
        for (int n = 1; n <= 9; n++) {
            for (int k = 0; k <= 8; k++) {
                int kept = k;
                b.answers(n + " PAGES round, k " + k, ring(n), x -> x.pages(kept), k >= n ? n : 200);
            }
            b.answers(n + " PAGES round, k 4 at first", ring(n), x -> x.ran(LAID, 8), n <= 4 ? n : 200);
            int cost = 50 * (n <= 4 ? n : 200) + 2 * (200 / n);
            b.answers(n + " PAGES round, COST", ring(n), x -> x.ran(LAID, 4), cost);
        }
        for (int k = 0; k <= 8; k++) {
            int kept = k;
            Bound.Told set = x -> x.set(2, kept);
            b.answers("5 PAGES round, set(2, " + k + ")", set.then(ring(5)), x -> x.ran(LAID, 8), k >= 5 ? 5 : 200);
        }
    }

    private static void touchedAnew(Due due) {
        Bound b = new Bound(due, "2", "(the latest one counts anew as it is touched");
        // PAGES 0 1 0 2 0 1 ..: with the last 2, 0 is always there, as it is touched before 2 comes, 1 and 2 are not.
        Bound.Told state = sizes(56, 62, 62, 1).then(States.end(0, TABLE, 1, 2, 3)).then(States.end(1, GO, 0))
            .then(States.end(2, GO, 0)).then(x -> x.say(0x000100010002L, 6)).then(x -> x.run(0, LAID));
        FallRows x = Bound.made(state);
        b.are("passed", RunsTest.passed(x, LAID), "0 1 0 2 0 1 0 2 0 1 0 3");
        b.are("begin at", x.laid(0, 0) / 64 + " " + x.laid(1, 0) / 64 + " " + x.laid(2, 0) / 64 + " " + x.laid(3, 0) / 64,
            "0 1 2 3");
        b.are("missed", x.pages(0) + " " + x.pages(1) + " " + x.pages(2) + " " + x.pages(3) + " " + x.pages(4), "12 12 7 4 4");
    }

    private static void badIsFirst(Due due) {
        Bound b = new Bound(due, "0",
            "Refused, and nothing changes, the first of these: BAD (a number is not as told, or there is no "
                + "such thing), STATE (as told), FULL.");
        b.refuses("block(), BAD and FULL of 40", States::full, x -> x.block(5, 201), BAD);
        b.refuses("block(), BAD and FULL of nine", States.one(9), x -> x.block(0, 0), BAD);
        b.refuses("block(), no such thing, and FULL of 40", States::full, x -> x.block(6, 1), BAD);
        b.refuses("block(), FULL alone", States::full, x -> x.block(5, 200), FULL);
        b.refuses("say(), BAD and FULL", States::full, x -> x.say(0, 9), BAD);
        b.refuses("say(), BAD and FULL", States::full, x -> x.say(0, 0), BAD);
        b.refuses("say(), FULL alone", States::full, x -> x.say(0, 1), FULL);
        b.refuses("pages(), BAD and STATE", States.one(1), x -> x.pages(9), BAD);
        b.refuses("pages(), STATE alone", States.one(1), x -> x.pages(8), STATE);
        b.refuses("ran(), BAD where NONE is due", States.one(1), x -> x.ran(0, 9), BAD);
        b.refuses("passed(), BAD where NONE is due", States.one(1), x -> x.passed(2, 0), BAD);
    }

    // ---- Promises

    private static void says(Due due) {
        Bound b = new Bound(due, "18",
            "n (1 .. 8) bytes come to THE TAPE, the highest one of the n lowest first: how many it has. BAD; "
                + "FULL.");
        for (int n = 1; n <= 8; n++) {
            int bytes = n;
            b.answers("n " + n, States::none, x -> x.say(-1L, bytes), n);
            b.answers("n " + n + " on much", States::rich, x -> x.say(0L, bytes), 10 + n);
            b.answers("n " + n + " to the brim", States.tape(200 - n, 3), x -> x.say(0L, bytes), 200);
            b.refuses("n " + n + ", one too many", States.one(2).then(States.end(0, TEST, 0, 1))
                .then(States.tape(201 - n, 2)), x -> x.say(-1L, bytes), FULL);
        }
        for (int n : new int[] {0, -1, 9, 200, BELOW, ABOVE}) {
            b.refuses("n " + n, States::rich, x -> x.say(-1L, n), BAD);
            b.refuses("n " + n + ", BAD is ahead of FULL", States::full, x -> x.say(-1L, n), BAD);
        }
        // Each byte of the eight leads to its own BLOCK: 4 WAYS by the 2 lowest bits.
        Bound.Told reads = States.one(4).then(x -> {
            for (int block = 0; block < 4; block++) {
                x.end(block, TABLE, 0, 1, 2, 3);
            }
        });
        b.are("eight", tape(reads.then(x -> x.say(0x8102FF00FD7E0301L, 8))), "1 2 3 0 1 2 3 1 0");
        b.are("three of eight", tape(reads.then(x -> x.say(0x8102FF00FD7E0301L, 3))), "2 3 1 0 0 0 0 0 0");
        b.are("one of eight", tape(reads.then(x -> x.say(0x8102FF00FD7E0301L, 1))), "1 0 0 0 0 0 0 0 0");
        b.are("behind one another", tape(reads.then(x -> x.say(0x0102, 2)).then(x -> x.say(-1, 1)).then(x -> x.say(1, 2))),
            "1 2 3 0 1 0 0 0 0");
    }

    private static String tape(Bound.Told state) {
        FallRows x = Bound.made(state);
        x.run(0, PLAIN);
        StringBuilder all = new StringBuilder();
        for (int i = 1; i <= 9; i++) {
            all.append(i == 1 ? "" : " ").append(x.passed(PLAIN, i));
        }
        return all.toString();
    }

    private static void tears(Due due) {
        Bound b = new Bound(due, "19", "THE TAPE is empty: how many it had.");
        b.answers("none", States::none, x -> x.tear(), 0);
        b.answers("one", States.tape(1, 9), x -> x.tear(), 1);
        b.answers("200", States.tape(200, 9), x -> x.tear(), 200);
        b.answers("then none", States.tape(200, 9).then(x -> x.tear()), x -> x.tear(), 0);
        b.answers("then none", States.tape(200, 9).then(x -> x.tear()), x -> x.has(2), 0);
        b.answers("then 200 come again", States.tape(200, 9).then(x -> x.tear()).then(States.tape(199, 1)),
            x -> x.say(0, 1), 200);
        b.changesNothing("an empty one", States.one(3), x -> x.tear());
    }

    private static void runsRefused(Due due) {
        Bound b = new Bound(due, "20", "A run from a BLOCK on, PLAIN (0), LAID (1): how it ended. BAD.");
        for (int how = PLAIN; how <= LAID; how++) {
            int sort = how;
            b.answers("the last BLOCK, sort " + how, States::rich, x -> x.run(7, sort), FallRows.DEEP);
            b.answers("BLOCK 39 of 40, sort " + how, States::full, x -> x.run(39, sort), FallRows.LONG);
            for (int block : new int[] {-1, 8, 40, BELOW, ABOVE}) {
                b.refuses("BLOCK " + block + ", sort " + how, States::rich, x -> x.run(block, sort), BAD);
            }
            b.refuses("BLOCK 40 of 40, sort " + how, States::full, x -> x.run(40, sort), BAD);
        }
        for (int how : new int[] {-1, 2, BELOW, ABOVE}) {
            b.refuses("sort " + how, States::rich, x -> x.run(7, how), BAD);
        }
    }

    private static void ranRefused(Due due) {
        Bound b = new Bound(due, "21", "8 PAGES missed (4 .. 8 of a PLAIN one: 0). NONE: there was none. BAD.");
        for (int what = 0; what <= 8; what++) {
            int asked = what;
            for (int how = PLAIN; how <= LAID; how++) {
                int sort = how;
                b.answers("none, what " + what + " of " + how, States.one(1), x -> x.ran(sort, asked), NONE);
                b.answers("none of that sort, what " + what + " of " + how, States.one(1).then(x -> x.run(0, 1 - sort)),
                    x -> x.ran(sort, asked), NONE);
                b.answers("of a refused one, what " + what + " of " + how, States.one(1).then(x -> x.run(1, sort)),
                    x -> x.ran(sort, asked), NONE);
                b.changesNothing("ran(" + how + ", " + what + ")", States::rich, x -> x.ran(sort, asked));
            }
        }
        FallRows x = Bound.made(States.one(3).then(States.end(0, TEST, 2, 0)).then(y -> y.say(1, 1)));
        x.run(0, PLAIN);
        x.run(0, LAID);
        b.are("4 .. 8 of a PLAIN one", RunsTest.ran(x, PLAIN), "0 3 2 0 0 0 0 0 0");
        b.are("4 .. 8 of a LAID one", RunsTest.ran(x, LAID), "0 3 2 0 56 1 1 1 1");
        for (int what : new int[] {-1, 9, BELOW, ABOVE}) {
            for (int how = PLAIN; how <= LAID; how++) {
                int sort = how;
                b.refuses("what " + what + " of " + how, States::rich, y -> y.ran(sort, what), BAD);
                b.refuses("what " + what + " of " + how + ", none", States.one(1), y -> y.ran(sort, what), BAD);
            }
        }
        for (int how : new int[] {-1, 2, BELOW, ABOVE}) {
            b.refuses("sort " + how, States::rich, y -> y.ran(how, 0), BAD);
        }
    }

    private static void latestRun(Due due) {
        Bound b = new Bound(due, "21", "Of the latest run of that sort");
        Bound.Told jumps = States.one(3).then(States.end(0, TEST, 2, 0)).then(x -> x.say(1, 1));
        Bound.Told calls = nested(9);
        for (int sort = PLAIN; sort <= LAID; sort++) {
            int how = sort;
            String least = sort == PLAIN ? "0 1 0 0 0 0 0 0 0" : "0 1 0 0 50 0 0 0 1";
            for (Bound.Told state : new Bound.Told[] {jumps, calls, passes(200)}) {
                Bound.Told ran = state.then(x -> x.run(0, how)).then(x -> x.run(2, how));
                b.are("a short one behind a longer one, sort " + sort, RunsTest.ran(Bound.made(ran), sort), least);
                b.are("the other sort is as it was, " + sort,
                    RunsTest.ran(Bound.made(state.then(x -> x.run(0, how)).then(x -> x.run(2, 1 - how))), sort),
                    RunsTest.ran(Bound.made(state.then(x -> x.run(0, how))), sort));
            }
        }
    }

    private static void passedRefused(Due due) {
        Bound b = new Bound(due, "22", "The i-th BLOCK that the latest run of that sort passed; NONE. BAD.");
        for (int how = PLAIN; how <= LAID; how++) {
            int sort = how;
            b.answers("none of " + how, States.one(1), x -> x.passed(sort, 0), NONE);
            b.answers("none of that sort " + how, States.one(1).then(x -> x.run(0, 1 - sort)), x -> x.passed(sort, 0), NONE);
            Bound.Told two = States.one(3).then(States.end(0, GO, 2)).then(x -> x.run(0, sort));
            b.answers("the first of " + how, two, x -> x.passed(sort, 0), 0);
            b.answers("the last of " + how, two, x -> x.passed(sort, 1), 2);
            for (int i : new int[] {-1, 2, 199, 200, BELOW, ABOVE}) {
                b.answers("passed(" + how + ", " + i + ")", two, x -> x.passed(sort, i), NONE);
            }
            Bound.Told shorter = passes(200).then(x -> x.run(0, sort));
            b.answers("the 200th of " + how, shorter, x -> x.passed(sort, 199), 0);
            b.answers("the 201st of " + how, shorter, x -> x.passed(sort, 200), NONE);
            b.answers("of a shorter one behind it, " + how, shorter.then(x -> x.run(2, sort)), x -> x.passed(sort, 1), NONE);
            b.changesNothing("passed(" + how + ", 0)", States::rich, x -> x.passed(sort, 0));
        }
        for (int how : new int[] {-1, 2, BELOW, ABOVE}) {
            b.refuses("sort " + how, States::rich, x -> x.passed(how, 0), BAD);
        }
    }

    private static void learned(Due due) {
        Bound b = new Bound(due, "23",
            "COUNTS become, of each WAY (CALL's too), how often the latest PLAIN run took it: how many BLOCKS "
                + "it passed.");
        b.answers("of one BLOCK", States.one(1).then(x -> x.run(0, PLAIN)), x -> x.learn(), 1);
        b.answers("of 200", passes(200).then(x -> x.run(0, PLAIN)), x -> x.learn(), 200);
        FallRows x = Bound.made(passes(200).then(y -> y.run(0, PLAIN)).then(y -> y.learn()));
        b.are("the WAY of the 200th, too", x.about(0, 10) + " " + x.about(0, 11), "199 1");
        x = Bound.made(nested(8).then(y -> y.count(1, 0, 1000000)).then(y -> y.run(0, PLAIN)).then(y -> y.learn()));
        b.are("8 CALLS, all closed", x.about(0, 10) + " " + x.about(0, 11) + " " + x.about(1, 10), "8 1 8");
        x = Bound.made(nested(9).then(y -> y.count(1, 0, 1000000)).then(y -> y.run(0, PLAIN)).then(y -> y.learn()));
        b.are("9 CALLS, none closed", x.about(0, 10) + " " + x.about(0, 11) + " " + x.about(1, 10), "9 0 0");
        x = Bound.made(States::rich);
        x.run(7, PLAIN);
        b.is("what it did not pass", x.learn(), 9);
        b.are("becomes 0", x.about(0, 10) + " " + x.about(2, 11) + " " + x.about(5, 11) + " " + x.about(7, 10), "0 0 0 0");
    }

    private static void learnRefused(Due due) {
        Bound b = new Bound(due, "23", "STATE: there was none, or a BLOCK, an END was told since.");
        Bound.Told one = States.routines(2).then(States.blocks(0, 9)).then(States.end(0, GO, 1)).then(x -> x.count(0, 0, 7));
        Bound.Told ran = one.then(x -> x.run(0, PLAIN));
        b.answers("none since", ran, x -> x.learn(), 2);
        b.refuses("there was none", one, x -> x.learn(), STATE);
        b.refuses("there was a LAID one", one.then(x -> x.run(0, LAID)), x -> x.learn(), STATE);
        b.refuses("there was a refused one", one.then(x -> x.run(9, PLAIN)), x -> x.learn(), STATE);
        b.refuses("a BLOCK since", ran.then(x -> x.block(1, 1)), x -> x.learn(), STATE);
        b.refuses("an END since", ran.then(x -> x.end(8, 0, 0, 0, 0, 0)), x -> x.learn(), STATE);
        b.refuses("the same END since", ran.then(States.end(0, GO, 1)), x -> x.learn(), STATE);
        b.refuses("a LAID run since", ran.then(States.end(0, GO, 1)).then(x -> x.run(0, LAID)), x -> x.learn(), STATE);
        b.refuses("differ() since", ran.then(States.end(0, GO, 1)).then(x -> x.differ()), x -> x.learn(), STATE);
        b.answers("a PLAIN run since", ran.then(States.end(0, GO, 1)).then(x -> x.run(0, PLAIN)), x -> x.learn(), 2);
        b.answers("a BLOCK that was BAD", ran.then(x -> x.block(1, 201)), x -> x.learn(), 2);
        b.answers("a BLOCK that was FULL", ran.then(x -> x.block(0, 1)), x -> x.learn(), 2);
        b.answers("an END that was BAD", ran.then(x -> x.end(0, GO, 9, 0, 0, 0)), x -> x.learn(), 2);
        b.answers("a routine()", ran.then(x -> x.routine()), x -> x.learn(), 2);
        b.answers("a COUNT, an order, a COLD one", ran.then(x -> x.count(0, 0, 9)).then(x -> x.move(1, 2))
            .then(x -> x.cold(1, true)).then(x -> x.undo()), x -> x.learn(), 2);
        b.answers("a learn()", ran.then(x -> x.learn()), x -> x.learn(), 2);
    }

    private static void pagesRefused(Due due) {
        Bound b = new Bound(due, "24", "if the last k (0 .. 8) are kept. BAD; STATE: there was none.");
        b.answers("k 0", States::rich, x -> x.pages(0) - x.ran(LAID, 1), 0);
        b.answers("k 8", ring(9), x -> x.pages(8), 200);
        b.answers("k 8", ring(8), x -> x.pages(8), 8);
        for (int k = 0; k <= 8; k++) {
            int kept = k;
            b.refuses("there was none, k " + k, States.one(2), x -> x.pages(kept), STATE);
            b.refuses("there was a PLAIN one, k " + k, States.one(2).then(x -> x.run(0, PLAIN)), x -> x.pages(kept), STATE);
            b.changesNothing("pages(" + k + ")", States::rich, x -> x.pages(kept));
        }
        b.refuses("there was a refused one", States.one(2).then(x -> x.run(2, LAID)), x -> x.pages(4), STATE);
        b.refuses("differ() is none", States.one(2).then(x -> x.differ()), x -> x.pages(4), STATE);
        for (int k : new int[] {-1, 9, BELOW, ABOVE}) {
            b.refuses("k " + k, States::rich, x -> x.pages(k), BAD);
            b.refuses("k " + k + ", BAD is ahead of STATE", States.one(2), x -> x.pages(k), BAD);
        }
    }

    private static void differs(Due due) {
        Bound b = new Bound(due, "25", "the first BLOCK for which not; NONE. (No run that ran() tells.)");
        b.answers("no BLOCKS", States::none, x -> x.differ(), NONE);
        b.answers("ROUTINES without BLOCKS", States.routines(6), x -> x.differ(), NONE);
        b.answers("one BLOCK", States.one(1), x -> x.differ(), NONE);
        b.answers("much", States::rich, x -> x.differ(), NONE);
        b.answers("all full", States::full, x -> x.differ(), NONE);
        b.answers("DEEP", nested(9), x -> x.differ(), NONE);
        b.answers("LONG", passes(200), x -> x.differ(), NONE);
        b.answers("DEEP at the 200th", deepAt(191), x -> x.differ(), NONE);
        b.changesNothing("differ()", States::rich, x -> x.differ());
        b.changesNothing("differ() without a run", States.one(3).then(States.end(0, TEST, 1, 2)), x -> x.differ());
        b.changesNothing("differ() of all", States::full, x -> x.differ());
    }

    private static void hasWhat(Due due) {
        Bound b = new Bound(due, "26",
            "0 ROUTINES, 1 BLOCKS, 2 bytes of THE TAPE, 3 APART, 4 ALIGN, 5 k, 6 what undo() could. BAD.");
        int[] none = {0, 0, 0, 0, 1, 4, 0};
        int[] rich = {4, 8, 10, 1, 4, 3, 3};
        int[] full = {6, 40, 200, 0, 1, 4, 12};
        for (int what = 0; what <= 6; what++) {
            int asked = what;
            b.answers("nothing, what " + what, States::none, x -> x.has(asked), none[what]);
            b.answers("much, what " + what, States::rich, x -> x.has(asked), rich[what]);
            b.answers("all full, what " + what, States::full, x -> x.has(asked), full[what]);
            b.changesNothing("has(" + what + ")", States::rich, x -> x.has(asked));
        }
        for (int what : new int[] {-1, 7, BELOW, ABOVE}) {
            b.refuses("what " + what, States::rich, x -> x.has(what), BAD);
        }
    }

    public static void main(String[] args) {
        Due due = new Due();
        tapeOf200(due);
        zeroBehindTheEnd(due);
        testsByEven(due);
        tablesByModulo(due);
        guardedBy255(due);
        backWithoutACall(due);
        trap(due);
        deep(due);
        longRuns(due);
        deepOrLong(due);
        choicesOfLaidRuns(due);
        otherCosts(due);
        pageOf64(due);
        lastKPages(due);
        touchedAnew(due);
        badIsFirst(due);
        says(due);
        tears(due);
        runsRefused(due);
        ranRefused(due);
        latestRun(due);
        passedRefused(due);
        learned(due);
        learnRefused(due);
        pagesRefused(due);
        differs(due);
        hasWhat(due);
        due.finish();
    }
}

/** The boundaries that 'What it is', section 1 of 'Terms' and promises 1 to 7 name: one test for each sentence. */
final class RoutineBoundsTest {
    private static final int BAD = FallRows.BAD, STATE = FallRows.STATE, FULL = FallRows.FULL, NONE = FallRows.NONE;
    private static final int BELOW = Integer.MIN_VALUE, ABOVE = Integer.MAX_VALUE;
    private static final int BACK = 0, TRAP = 1, GO = 2, TEST = 3, TABLE = 4, CALL = 5, GUARDED = 6;

    // ---- What it is

    private static void sixRoutines(Due due) {
        Bound b = new Bound(due, "1", "ROUTINES (6 at most)");
        b.answers("the first", States::none, x -> x.routine(), 0);
        b.answers("the sixth", States.routines(5), x -> x.routine(), 5);
        b.refuses("a seventh", States.routines(6), x -> x.routine(), FULL);
        b.refuses("a seventh, with BLOCKS", States::full, x -> x.routine(), FULL);
        b.refuses("an eighth", States.routines(7), x -> x.routine(), FULL);
    }

    private static void nineBlocksEach(Due due) {
        Bound b = new Bound(due, "1", "have BLOCKS (9 at most each");
        for (int r = 0; r < 6; r++) {
            int routine = r;
            Bound.Told eight = States.routines(6).then(States.blocks(r, 8));
            Bound.Told nine = States.routines(6).then(States.blocks(r, 9));
            b.answers("the ninth of " + r, eight, x -> x.block(routine, 7), 8);
            b.refuses("the tenth of " + r, nine, x -> x.block(routine, 7), FULL);
            b.answers("one of another ROUTINE than " + r, nine, x -> x.block((routine + 1) % 6, 7), 9);
        }
        Bound.Told ran = States.one(9).then(x -> x.move(8, 1)).then(x -> x.run(0, 0));
        b.refuses("the tenth, with an order and a run", ran, x -> x.block(0, 200), FULL);
        b.answers("the tenth forgets no order", ran.then(x -> x.block(0, 200)), x -> x.undo(), 0);
        b.answers("the tenth is none that was told", ran.then(x -> x.block(0, 200)), x -> x.learn(), 1);
    }

    private static void fortyInAll(Due due) {
        Bound b = new Bound(due, "1", "numbered in all from 0 on as they come, 40 at most)");
        Bound.Told most = States.routines(6);
        for (int r = 0; r < 4; r++) {
            most = most.then(States.blocks(r, 9));
        }
        Bound.Told all = most.then(States.blocks(4, 4));
        b.answers("the 40th", most.then(States.blocks(4, 3)), x -> x.block(4, 1), 39);
        b.answers("the 40th is the first of its ROUTINE", most.then(States.blocks(4, 3)), x -> x.block(5, 1), 39);
        b.refuses("the 41st", all, x -> x.block(4, 1), FULL);
        b.refuses("the 41st, of a ROUTINE without BLOCKS", all, x -> x.block(5, 1), FULL);
        b.refuses("the 41st, of one that has nine", all, x -> x.block(0, 1), FULL);
        b.refuses("the 41st, with orders and runs", States::full, x -> x.block(5, 200), FULL);
        b.answers("so many", all.then(x -> x.block(5, 1)), x -> x.has(1), 40);
    }

    private static void numbered(Due due) {
        Bound b = new Bound(due, "1", "numbered in all from 0 on as they come");
        FallRows x = Bound.made(States.routines(3));
        b.is("the first", x.block(2, 1), 0);
        b.is("of another ROUTINE", x.block(0, 1), 1);
        b.is("of the one before", x.block(2, 1), 2);
        b.is("a refused one has no number", x.block(1, 0), BAD);
        b.is("so the next one has it", x.block(1, 1), 3);
        b.are("whose they are", x.about(0, 0) + " " + x.about(1, 0) + " " + x.about(2, 0) + " " + x.about(3, 0),
            "2 0 2 1");
        b.is("place, by ROUTINES", x.about(2, 4), 1);
        b.is("place, by ROUTINES", x.about(3, 4), 0);
    }

    private static void beginsWithTheFirst(Due due) {
        Bound b = new Bound(due, "1", "the first one is where a ROUTINE begins");
        Bound.Told two = States.routines(2).then(States.blocks(0, 2)).then(States.blocks(1, 1));
        for (int how = 0; how <= 1; how++) {
            FallRows x = Bound.made(two.then(States.end(0, CALL, 1, 1)));
            b.is("the only one", x.run(0, how), FallRows.BACK);
            b.are("the only one", RunsTest.passed(x, how), "0 2 1");
            x = Bound.made(two.then(States.blocks(1, 2)).then(States.end(0, CALL, 1, 1)).then(y -> y.swap(3, 4)));
            b.is("in another order", x.run(0, how), FallRows.BACK);
            b.are("in another order", RunsTest.passed(x, how), "0 2 1");
        }
    }

    private static void at512Calls(Due due) {
        Bound b = new Bound(due, "0", "An object is used for at most 512 calls after it has been made");
        FallRows x = new FallRows();
        States.full(x);
        for (int call = 105; call < 509; call++) {
            x.swap(1 + call % 8, 1 + call / 8 % 8);
        }
        b.is("the 510th", x.differ(), NONE);
        b.is("the 511th", x.has(6), 12);
        b.is("the 512th", x.undo(), 11);
    }

    // ---- Terms

    private static void sizes(Due due) {
        Bound b = new Bound(due, "1", "A BLOCK has a SIZE (1 .. 200 bytes)");
        for (int size : new int[] {1, 2, 199, 200}) {
            b.answers("SIZE " + size, States.routines(1), x -> x.block(0, size), 0);
            b.answers("SIZE " + size + " told", States.routines(1).then(x -> x.block(0, size)), x -> x.about(0, 1), size);
            b.answers("SIZE " + size + " laid", States.routines(1).then(x -> x.block(0, size)), x -> x.told(0), size + 1);
        }
        for (int size : new int[] {0, -1, 201, 256, BELOW, ABOVE}) {
            b.refuses("SIZE " + size, States.routines(1), x -> x.block(0, size), BAD);
            b.refuses("SIZE " + size + " on much", States::rich, x -> x.block(3, size), BAD);
        }
    }

    private static void neverColdIsTheFirst(Due due) {
        Bound b = new Bound(due, "1", "may be COLD (not the first one)");
        Bound.Told two = States.routines(2).then(States.blocks(0, 2)).then(States.blocks(1, 2));
        b.answers("the second", two, x -> x.cold(1, true), 0);
        b.answers("the second of another", two, x -> x.cold(3, true), 0);
        for (boolean is : new boolean[] {true, false}) {
            b.refuses("the first", two, x -> x.cold(0, is), BAD);
            b.refuses("the first of another", two, x -> x.cold(2, is), BAD);
            b.refuses("the first, on much", States::rich, x -> x.cold(1, is), BAD);
            b.refuses("the only one", States::rich, x -> x.cold(7, is), BAD);
        }
        b.answers("none is at first", two, x -> x.about(1, 3), 0);
    }

    private static void backAtFirst(Due due) {
        Bound b = new Bound(due, "1", "an END, BACK at first");
        FallRows x = Bound.made(States.one(1));
        b.is("END", x.about(0, 2), BACK);
        b.is("WAYS", x.about(0, 5), 0);
        b.is("its byte", x.image(1), 195);
        b.is("a PLAIN run", x.run(0, 0), FallRows.BACK);
        b.is("a LAID run", x.run(0, 1), FallRows.BACK);
    }

    private static void waysOfItsOwn(Due due) {
        Bound b = new Bound(due, "1", "WAYS are BLOCKS of its own ROUTINE");
        Bound.Told two = States.routines(3).then(States.blocks(0, 2)).then(States.blocks(1, 2));
        Bound.Told state = two.then(States.blocks(2, 2));
        for (int kind : new int[] {GO, TEST, TABLE, CALL, GUARDED}) {
            int ways = kind == GO || kind == CALL ? 1 : kind == TABLE ? 4 : 2;
            // ROUTINE 2 and BLOCK 2 are both there, so that b is right for CALL as for the others.
            b.answers("the first, kind " + kind, state, x -> x.end(3, kind, 2, 2, 2, 2), ways);
            b.answers("the last, kind " + kind, state, x -> x.end(2, kind, 3, 2, 3, 3), ways);
            for (int to : new int[] {-2, 0, 1, 4, 5, 6, 40, BELOW, ABOVE}) {
                b.refuses("to " + to + ", kind " + kind, state, x -> x.end(2, kind, to, 2, 2, 2), BAD);
            }
        }
        for (int to : new int[] {-1, 1, 4, 6}) {
            b.refuses("WAY 1 of TEST to " + to, state, x -> x.end(2, TEST, 2, to, 0, 0), BAD);
            b.refuses("WAY 1 of GUARDED to " + to, state, x -> x.end(2, GUARDED, 2, to, 0, 0), BAD);
        }
        b.refuses("WAY 0 of GO to -1", state, x -> x.end(2, GO, -1, 2, 2, 2), BAD);
        b.refuses("of another ROUTINE, on much", States::rich, x -> x.end(0, TEST, 3, 1, 0, 0), BAD);
    }

    private static void counts(Due due) {
        Bound b = new Bound(due, "1", "each with a COUNT (0 .. 1000000; 0 at first)");
        Bound.Told test = States.one(2).then(States.end(0, TEST, 0, 1));
        b.answers("0 at first", test, x -> x.about(0, 10), 0);
        b.answers("0 at first", test, x -> x.about(0, 11), 0);
        for (int n : new int[] {0, 1, 999999, 1000000}) {
            b.answers("COUNT " + n, test, x -> x.count(0, 1, n), 0);
            b.answers("COUNT " + n + " told", test.then(x -> x.count(0, 1, n)), x -> x.about(0, 11), n);
        }
        for (int n : new int[] {-1, 1000001, BELOW, ABOVE}) {
            b.refuses("COUNT " + n, test, x -> x.count(0, 1, n), BAD);
            b.refuses("COUNT " + n + " on much", States::rich, x -> x.count(0, 0, n), BAD);
        }
    }

    private static void kinds(Due due) {
        Bound b = new Bound(due, "1", "0 BACK, 1 TRAP: no WAYS.");
        int[] ways = {0, 0, 1, 2, 4, 1, 2};
        for (int k = BACK; k <= GUARDED; k++) {
            int kind = k;
            b.answers("kind " + k, States.one(3), x -> x.end(1, kind, 0, 0, 0, 0), ways[k]);
            Bound.Told told = States.one(3).then(x -> x.end(1, kind, 0, 0, 0, 0));
            b.answers("kind " + k + " told", told, x -> x.about(1, 2), k);
            b.answers("kind " + k + ", its WAYS", told, x -> x.about(1, 5), ways[k]);
            if (ways[k] > 0) {
                b.answers("kind " + k + ", its last WAY", told, x -> x.about(1, 5 + ways[kind]), 0);
                b.answers("kind " + k + ", its last COUNT", told, x -> x.count(1, ways[kind] - 1, 5), 0);
            }
            if (ways[k] < 4) {
                b.answers("kind " + k + ", no WAY more", told, x -> x.about(1, 6 + ways[kind]), NONE);
                b.answers("kind " + k + ", no COUNT more", told, x -> x.about(1, 10 + ways[kind]), NONE);
            }
            b.refuses("kind " + k + ", a COUNT beyond", told, x -> x.count(1, ways[kind], 5), BAD);
        }
        for (int kind : new int[] {-1, 7, BELOW, ABOVE}) {
            b.refuses("kind " + kind, States.one(3), x -> x.end(1, kind, 0, 0, 0, 0), BAD);
            b.refuses("kind " + kind + " on much", States::rich, x -> x.end(0, kind, 0, 0, 0, 0), BAD);
        }
    }

    private static void tables(Due due) {
        Bound b = new Bound(due, "1", "4 TABLE: 1 .. 4.");
        Bound.Told three = States.one(3).then(States.end(1, TEST, 2, 0));
        b.answers("of one", three, x -> x.end(1, TABLE, 2, -1, 0, 0), 1);
        b.answers("of two", three, x -> x.end(1, TABLE, 2, 1, -1, 0), 2);
        b.answers("of three", three, x -> x.end(1, TABLE, 2, 1, 0, -1), 3);
        b.answers("of four", three, x -> x.end(1, TABLE, 2, 1, 0, 2), 4);
        b.refuses("of none", three, x -> x.end(1, TABLE, -1, -1, -1, -1), BAD);
        b.refuses("of none, others behind", three, x -> x.end(1, TABLE, -1, 2, 1, 0), BAD);
        b.refuses("of none, on much", States::rich, x -> x.end(2, TABLE, -1, 3, 0, 2), BAD);
    }

    // ---- Promises

    private static void newObject(Due due) {
        Bound b = new Bound(due, "1", "No ROUTINES; ALIGN 1, APART off; THE TAPE is empty.");
        FallRows x = new FallRows();
        b.are("has()", x.has(0) + " " + x.has(1) + " " + x.has(2) + " " + x.has(3) + " " + x.has(4), "0 0 0 0 1");
        b.are("what is laid", LayoutTest.told(x), "0 0 0 0 0 0");
        b.refuses("a BLOCK of ROUTINE 0", States::none, y -> y.block(0, 1), BAD);
        b.refuses("about() BLOCK 0", States::none, y -> y.about(0, 0), BAD);
        b.refuses("laid() of BLOCK 0", States::none, y -> y.laid(0, 0), BAD);
        b.refuses("an END of BLOCK 0", States::none, y -> y.end(0, BACK, 0, 0, 0, 0), BAD);
        b.refuses("a COUNT of BLOCK 0", States::none, y -> y.count(0, 0, 0), BAD);
        b.refuses("COLD BLOCK 0", States::none, y -> y.cold(0, true), BAD);
        b.refuses("an order of ROUTINE 0", States::none, y -> y.order(0, 0), BAD);
        b.refuses("a WEIGHT of ROUTINE 0", States::none, y -> y.weight(0, 0), BAD);
        b.refuses("move()", States::none, y -> y.move(0, 1), BAD);
        b.refuses("swap()", States::none, y -> y.swap(0, 0), BAD);
        b.refuses("a PLAIN run", States::none, y -> y.run(0, 0), BAD);
        b.refuses("a LAID run", States::none, y -> y.run(0, 1), BAD);
        b.refuses("undo()", States::none, y -> y.undo(), STATE);
        b.refuses("learn()", States::none, y -> y.learn(), STATE);
        b.refuses("pages()", States::none, y -> y.pages(0), STATE);
        b.answers("row()", States::none, y -> y.row(0), NONE);
        b.answers("image()", States::none, y -> y.image(0), NONE);
        b.answers("differ()", States::none, y -> y.differ(), NONE);
        b.answers("tear()", States::none, y -> y.tear(), 0);
    }

    private static void routineWithoutBlocks(Due due) {
        Bound b = new Bound(due, "2", "A ROUTINE without BLOCKS: its number. FULL.");
        Bound.Told state = States.routines(3).then(States.blocks(0, 2)).then(States.blocks(2, 1));
        b.answers("its number", States::rich, x -> x.routine(), 4);
        FallRows x = Bound.made(state);
        b.are("nothing of it in THE ROW", LayoutTest.row(x), "0 1 2");
        b.are("nothing of it is laid", LayoutTest.image(x, 0, 7), "0 195 1 195 2 195 -9");
        b.is("one that comes changes nothing there", x.routine(), 3);
        b.are("nothing of it in THE ROW", LayoutTest.row(x), "0 1 2");
        for (int what = 0; what <= 3; what++) {
            int asked = what;
            b.refuses("weight(1, " + what + ")", state, y -> y.weight(1, asked), BAD);
            b.refuses("order(1, " + what + ")", state, y -> y.order(1, asked), BAD);
        }
        b.answers("its first BLOCK", state, y -> y.block(1, 1), 3);
    }

    private static void blockRefused(Due due) {
        Bound b = new Bound(due, "3", "A BLOCK of a ROUTINE: its number. BAD; FULL.");
        b.answers("of the last ROUTINE", States::rich, x -> x.block(3, 1), 8);
        for (int routine : new int[] {-1, 4, 5, 6, BELOW, ABOVE}) {
            b.refuses("of ROUTINE " + routine, States::rich, x -> x.block(routine, 1), BAD);
        }
        b.refuses("ROUTINE 6 of six", States::full, x -> x.block(6, 1), BAD);
        b.refuses("BAD is ahead of FULL: SIZE", States::full, x -> x.block(0, 201), BAD);
        b.refuses("BAD is ahead of FULL: SIZE", States.one(9), x -> x.block(0, 0), BAD);
        b.refuses("BAD is ahead of FULL: ROUTINE", States::full, x -> x.block(-1, 1), BAD);
    }

    private static void endLooksAtItsWaysAlone(Due due) {
        Bound b = new Bound(due, "4", "a, b, c, d its WAYS as far as it has some (others are not looked at");
        for (int other : new int[] {-1, -2, 99, BELOW, ABOVE}) {
            b.answers("BACK", States.one(2), x -> x.end(1, BACK, other, other, other, other), 0);
            b.answers("TRAP", States.one(2), x -> x.end(1, TRAP, other, other, other, other), 0);
            b.answers("GO", States.one(2), x -> x.end(1, GO, 0, other, other, other), 1);
            b.answers("TEST", States.one(2), x -> x.end(1, TEST, 0, 1, other, other), 2);
            b.answers("CALL", States.one(2), x -> x.end(1, CALL, 0, 0, other, other), 1);
            b.answers("GUARDED", States.one(2), x -> x.end(1, GUARDED, 0, 1, other, other), 2);
        }
        b.refuses("TABLE's fourth is looked at", States.one(2), x -> x.end(1, TABLE, 0, 1, 0, 2), BAD);
        b.refuses("TABLE's third is looked at", States.one(2), x -> x.end(1, TABLE, 0, 1, -2, -1), BAD);
    }

    private static void callOfARoutine(Due due) {
        Bound b = new Bound(due, "4", "of CALL b is the ROUTINE, which has a BLOCK");
        Bound.Told state = States.routines(3).then(States.blocks(0, 2)).then(States.blocks(1, 1));
        b.answers("its own", state, x -> x.end(0, CALL, 1, 0, 0, 0), 1);
        b.answers("another", state, x -> x.end(0, CALL, 1, 1, 0, 0), 1);
        b.answers("another, told", state.then(States.end(0, CALL, 1, 1)), x -> x.about(0, 14), 1);
        for (int routine : new int[] {2, 3, -1, 6, BELOW, ABOVE}) {
            b.refuses("ROUTINE " + routine, state, x -> x.end(0, CALL, 1, routine, 0, 0), BAD);
            int much = routine == 2 ? 3 : routine == 3 ? 4 : routine;
            b.refuses("ROUTINE " + much + " on much", States::rich, x -> x.end(3, CALL, 5, much, 0, 0), BAD);
        }
        b.answers("one that got a BLOCK", state.then(States.blocks(2, 1)), x -> x.end(0, CALL, 1, 2, 0, 0), 1);
    }

    private static void tableEnds(Due due) {
        Bound b = new Bound(due, "4", "of TABLE -1 ends them");
        for (int other : new int[] {-1, -2, 99, BELOW, ABOVE}) {
            b.answers("behind one", States.one(2), x -> x.end(1, TABLE, 0, -1, other, other), 1);
            b.answers("behind two", States.one(2), x -> x.end(1, TABLE, 0, 1, -1, other), 2);
        }
        FallRows x = Bound.made(States.one(2).then(States.end(1, TABLE, 0, -1, 1, 1)));
        b.are("what is behind is no WAY", RoutinesTest.about(x, 1), "0 1 4 0 1 1 0 -9 -9 -9 0 -9 -9 -9 -9");
        b.refuses("-2 does not", States.one(2), y -> y.end(1, TABLE, 0, -2, 0, 0), BAD);
        b.refuses("least int does not", States.one(2), y -> y.end(1, TABLE, 0, 1, BELOW, 0), BAD);
    }

    private static void endCountsAreNought(Due due) {
        Bound b = new Bound(due, "4", "COUNTS 0: how many WAYS.");
        FallRows x = Bound.made(States.one(2).then(States.end(1, TABLE, 0, 1, 0, 1)));
        for (int way = 0; way < 4; way++) {
            x.count(1, way, 1000000);
        }
        b.is("the same END", x.end(1, TABLE, 0, 1, 0, 1), 4);
        b.are("its COUNTS", RoutinesTest.about(x, 1), "0 1 4 0 1 4 0 1 0 1 0 0 0 0 -9");
        x.count(1, 3, 7);
        x.end(1, GO, 0, 0, 0, 0);
        x.end(1, TABLE, 0, 1, 0, 1);
        b.is("a COUNT of long ago", x.about(1, 13), 0);
    }

    private static void endOfABlock(Due due) {
        Bound b = new Bound(due, "4", "BAD: also a WAY that is no BLOCK of its ROUTINE.");
        b.answers("the last BLOCK", States::rich, x -> x.end(7, TRAP, 0, 0, 0, 0), 0);
        for (int block : new int[] {-1, 8, 39, 40, BELOW, ABOVE}) {
            b.refuses("BLOCK " + block, States::rich, x -> x.end(block, BACK, 0, 0, 0, 0), BAD);
        }
        b.refuses("BLOCK 40 of 40", States::full, x -> x.end(40, BACK, 0, 0, 0, 0), BAD);
        b.refuses("WAY 3 of TABLE", States::rich, x -> x.end(0, TABLE, 0, 2, 3, 4), BAD);
        b.refuses("WAY of CALL", States::rich, x -> x.end(0, CALL, 4, 1, 0, 0), BAD);
        b.refuses("one that is to come", States::rich, x -> x.end(0, GO, 8, 0, 0, 0), BAD);
    }

    private static void countOfAWay(Due due) {
        Bound b = new Bound(due, "5", "A COUNT of a WAY: what it was. BAD.");
        FallRows x = Bound.made(States.one(2).then(States.end(0, TEST, 1, 1)));
        b.is("at first", x.count(0, 0, 1000000), 0);
        b.is("from the most to 0", x.count(0, 0, 0), 1000000);
        b.is("from 0", x.count(0, 0, 3), 0);
        b.is("the other one is another", x.count(0, 1, 4), 0);
        for (int block : new int[] {-1, 8, 40, BELOW, ABOVE}) {
            b.refuses("BLOCK " + block, States::rich, y -> y.count(block, 0, 1), BAD);
        }
        for (int way : new int[] {-1, 2, 4, BELOW, ABOVE}) {
            b.refuses("WAY " + way + " of TEST", States::rich, y -> y.count(0, way, 1), BAD);
        }
        b.refuses("WAY 4 of TABLE", States::rich, y -> y.count(2, 4, 1), BAD);
        b.refuses("WAY 1 of CALL", States::rich, y -> y.count(3, 1, 1), BAD);
        b.refuses("WAY 0 of BACK", States::rich, y -> y.count(6, 0, 1), BAD);
        b.refuses("WAY 0 of TRAP", States::rich, y -> y.count(4, 0, 1), BAD);
    }

    private static void coldOrNot(Due due) {
        Bound b = new Bound(due, "6",
            "A BLOCK is COLD, or not: what it was (1, 0). BAD: also the first one of its ROUTINE.");
        FallRows x = Bound.made(States.one(2));
        b.is("not at first", x.cold(1, false), 0);
        b.is("it becomes so", x.cold(1, true), 0);
        b.is("it was so", x.cold(1, true), 1);
        b.is("it becomes so no more", x.cold(1, false), 1);
        b.is("it was not", x.cold(1, false), 0);
        for (int block : new int[] {-1, 8, 40, BELOW, ABOVE}) {
            b.refuses("BLOCK " + block, States::rich, y -> y.cold(block, true), BAD);
        }
        b.refuses("the first one", States::rich, y -> y.cold(0, true), BAD);
        b.refuses("BLOCK 40 of 40", States::full, y -> y.cold(40, true), BAD);
        b.answers("BLOCK 39 of 40", States::full, y -> y.cold(39, true), 0);
    }

    private static void aboutABlock(Due due) {
        Bound b = new Bound(due, "7",
            "6 .. 9 these (NONE), 10 .. 13 their COUNTS (NONE), 14 the ROUTINE that it calls (NONE). BAD.");
        FallRows x = Bound.made(States::rich);
        b.are("BACK", RoutinesTest.about(x, 6), "1 9 0 0 1 0 -9 -9 -9 -9 -9 -9 -9 -9 -9");
        b.are("TRAP", RoutinesTest.about(x, 4), "1 66 1 1 2 0 -9 -9 -9 -9 -9 -9 -9 -9 -9");
        b.are("GO", RoutinesTest.about(x, 1), "1 5 2 0 0 1 6 -9 -9 -9 3 -9 -9 -9 -9");
        b.are("TEST", RoutinesTest.about(x, 0), "0 20 3 0 0 2 2 3 -9 -9 5 9 -9 -9 -9");
        b.are("TABLE", RoutinesTest.about(x, 2), "0 130 4 0 3 4 3 5 0 2 0 1000000 0 0 -9");
        b.are("CALL", RoutinesTest.about(x, 3), "0 7 5 0 1 1 5 -9 -9 -9 4 -9 -9 -9 1");
        b.are("GUARDED", RoutinesTest.about(x, 5), "0 3 6 1 2 2 0 2 -9 -9 6 7 -9 -9 -9");
        b.answers("the last BLOCK, the last question", States::rich, y -> y.about(7, 14), 2);
        for (int block : new int[] {-1, 8, 40, BELOW, ABOVE}) {
            b.refuses("BLOCK " + block, States::rich, y -> y.about(block, 0), BAD);
        }
        for (int what : new int[] {-1, 15, BELOW, ABOVE}) {
            b.refuses("what " + what, States::rich, y -> y.about(0, what), BAD);
        }
        b.changesNothing("about()", States::rich, y -> y.about(2, 11));
    }

    public static void main(String[] args) {
        Due due = new Due();
        sixRoutines(due);
        nineBlocksEach(due);
        fortyInAll(due);
        numbered(due);
        beginsWithTheFirst(due);
        at512Calls(due);
        sizes(due);
        neverColdIsTheFirst(due);
        backAtFirst(due);
        waysOfItsOwn(due);
        counts(due);
        kinds(due);
        tables(due);
        newObject(due);
        routineWithoutBlocks(due);
        blockRefused(due);
        endLooksAtItsWaysAlone(due);
        callOfARoutine(due);
        tableEnds(due);
        endCountsAreNought(due);
        endOfABlock(due);
        countOfAWay(due);
        coldOrNot(due);
        aboutABlock(due);
        due.finish();
    }
}

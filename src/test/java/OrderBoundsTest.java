/** The boundaries that section 3 of 'Terms' and promises 10 and 13 name: one test for each sentence. */
final class OrderBoundsTest {
    private static final int BAD = FallRows.BAD, MOST = 1000000;
    private static final int BELOW = Integer.MIN_VALUE, ABOVE = Integer.MAX_VALUE;
    private static final int GO = 2, TEST = 3, TABLE = 4, CALL = 5, GUARDED = 6;
    private static final int CAME = 0, BEST = 1, LOCAL = 2, CHAINS = 3;

    /** A GO and its COUNT. */
    private static Bound.Told go(int block, int to, int count) {
        return States.end(block, GO, to).then(x -> x.count(block, 0, count));
    }

    /** An END of two WAYS and their COUNTS. */
    private static Bound.Told two(int kind, int block, int to, int count, int other, int otherCount) {
        return States.end(block, kind, to, other).then(x -> x.count(block, 0, count))
            .then(x -> x.count(block, 1, otherCount));
    }

    private static void ordered(Bound b, String what, Bound.Told state, int how, int weight, String row) {
        FallRows x = Bound.made(state);
        b.is(what, x.order(0, how), weight);
        b.are(what, LayoutTest.row(x), row);
        b.is(what + ", its WEIGHT", x.weight(0, 0), weight);
    }

    // ---- Terms

    private static void asIfAlone(Due due) {
        Bound b = new Bound(due, "3",
            "WEIGHT of an order of a ROUTINE's BLOCKS, by COUNTS, as if it were THE ROW alone");
        Bound.Told back = States.one(3).then(go(2, 0, 7));
        b.answers("nothing is NEXT behind the last one", back, x -> x.weight(0, 0), 14);
        b.answers("the only one", States.one(1).then(go(0, 0, 7)), x -> x.weight(0, 0), 14);
        b.answers("the only one", States.one(1).then(two(TEST, 0, 0, 7, 0, 5)), x -> x.weight(0, 0), 36);
        Bound.Told on = States.one(3).then(go(0, 1, 7)).then(go(1, 2, 5));
        b.answers("all fall", on, x -> x.weight(0, 0), 0);
        Bound.Told cold = on.then(x -> x.cold(1, true)).then(x -> x.set(0, 1));
        b.answers("COLD ones do not count, though APART is on", cold, x -> x.weight(0, 0), 0);
        b.answers("nor another ROUTINE", on.then(x -> x.routine()).then(States.blocks(1, 2)), x -> x.weight(0, 0), 0);
    }

    private static void weights(Due due) {
        Bound b = new Bound(due, "3", "GO, CALL, GUARDED: 2 times the COUNT of WAY 0, if that is not NEXT");
        for (int to = 1; to <= 2; to++) {
            int way = to;
            int want = to == 1 ? 0 : 2 * MOST;
            b.answers("GO to " + to, States.one(3).then(go(0, to, MOST)), x -> x.weight(0, 0), want);
            Bound.Told call = States.one(3).then(States.end(0, CALL, to, 0)).then(x -> x.count(0, 0, MOST));
            b.answers("CALL, its WAY " + to, call, x -> x.weight(0, 0), want);
            Bound.Told guarded = States.one(3).then(two(GUARDED, 0, way, MOST, 3 - way, 99));
            b.answers("GUARDED on to " + to, guarded, x -> x.weight(0, 0), want);
        }
        b.answers("a COUNT of 0", States.one(3).then(go(0, 2, 0)), x -> x.weight(0, 0), 0);
        b.answers("a COUNT of 1", States.one(3).then(go(0, 2, 1)), x -> x.weight(0, 0), 2);
    }

    private static void weightsOfTests(Due due) {
        Bound b = new Bound(due, "3", "WAY 1 NEXT: 3 c and e; else WAY 0 NEXT: c and 3 e; else 3 c and 3 e; others 0.");
        b.answers("WAY 1 NEXT", States.one(3).then(two(TEST, 0, 2, 10, 1, 100)), x -> x.weight(0, 0), 130);
        b.answers("WAY 0 NEXT", States.one(3).then(two(TEST, 0, 1, 10, 2, 100)), x -> x.weight(0, 0), 310);
        b.answers("both NEXT", States.one(3).then(two(TEST, 0, 1, 10, 1, 100)), x -> x.weight(0, 0), 130);
        b.answers("none NEXT", States.one(3).then(two(TEST, 0, 2, 10, 2, 100)), x -> x.weight(0, 0), 330);
        b.answers("the last one", States.one(3).then(two(TEST, 2, 0, 10, 1, 100)), x -> x.weight(0, 0), 330);
        b.answers("TABLE", States.one(3).then(two(TABLE, 0, 2, 10, 2, 100)), x -> x.weight(0, 0), 0);
        Bound.Told most = States.one(9).then(x -> {
            for (int block = 0; block < 9; block++) {
                two(TEST, block, 0, MOST, block, MOST).on(x);
            }
        });
        b.answers("the most of all", most, x -> x.weight(0, 0), 54 * MOST);
        b.answers("the most of all, BEST", most, x -> x.weight(0, 1), 54 * MOST);
        b.answers("the most of all, BOUND", most, x -> x.weight(0, 2), 36 * MOST);
    }

    private static void best(Due due) {
        Bound b = new Bound(due, "3",
            "of all orders that begin with the first BLOCK the one of least WEIGHT; of several the first "
                + "(compared from the left, by numbers)");
        ordered(b, "of one", States.one(1).then(go(0, 0, 5)), BEST, 10, "0");
        ordered(b, "of two", States.one(2).then(go(1, 0, 5)), BEST, 10, "0 1");
        Bound.Told turned = States.one(9).then(x -> {
            for (int i = 0; i < 8; i++) {
                x.move(i + 1, 1);
            }
        });
        ordered(b, "all alike", turned, BEST, 0, "0 1 2 3 4 5 6 7 8");
        ordered(b, "the first one stays", States.one(3).then(go(2, 0, MOST)), BEST, 2 * MOST, "0 1 2");
        Bound.Told ring = States.one(9).then(x -> {
            for (int block = 0; block < 9; block++) {
                go(block, (block + 8) % 9, block == 5 ? 1 : 10).on(x);
            }
        });
        // 0 8 7 6 5 4 3 2 1 leaves out the one back to 0 alone.
        ordered(b, "of nine", ring, BEST, 20, "0 8 7 6 5 4 3 2 1");
        ordered(b, "of two alike", States.one(4).then(go(1, 3, 5)).then(go(2, 3, 5)), BEST, 10, "0 1 2 3");
        ordered(b, "of two alike", States.one(4).then(go(1, 3, 5)).then(go(2, 3, 5)).then(x -> x.move(3, 2)), BEST, 10,
            "0 1 2 3");
        Bound.Told mixed = States.routines(2).then(x -> {
            for (int i = 0; i < 8; i++) {
                x.block(i % 2, 1);
            }
            x.swap(3, 7);
        });
        FallRows x = Bound.made(mixed.then(go(1, 5, 3)));
        b.is("numbers of two ROUTINES", x.order(1, BEST), 0);
        b.are("numbers of two ROUTINES", LayoutTest.row(x), "0 2 4 6 1 5 3 7");
    }

    private static void bound(Due due) {
        Bound b = new Bound(due, "3",
            "BOUND: the sum over BLOCKS of the least that each costs, whatever is NEXT (also if nothing could "
                + "be).");
        b.answers("GO of the only one", States.one(1).then(go(0, 0, 5)), x -> x.weight(0, 2), 0);
        b.answers("GO of all to the first", States.one(2).then(go(0, 0, 5)).then(go(1, 0, 5)), x -> x.weight(0, 2), 0);
        b.answers("TEST, c less", States.one(1).then(two(TEST, 0, 0, 10, 0, 100)), x -> x.weight(0, 2), 130);
        b.answers("TEST, two WAYS, c less", States.one(2).then(two(TEST, 0, 0, 10, 1, 100)), x -> x.weight(0, 2), 130);
        b.answers("TEST, two WAYS, e less", States.one(2).then(two(TEST, 0, 0, 100, 1, 10)), x -> x.weight(0, 2), 130);
        b.answers("CALL", States.one(2).then(States.end(1, CALL, 0, 0)).then(x -> x.count(1, 0, 9)), x -> x.weight(0, 2), 0);
        b.answers("GUARDED", States.one(2).then(two(GUARDED, 1, 0, 9, 1, 9)), x -> x.weight(0, 2), 0);
        b.answers("no COUNTS", States.one(9), x -> x.weight(0, 2), 0);
        b.answers("not by its order", States::rich, x -> x.weight(0, 2), 3 * 5 + 9);
    }

    private static void local(Due due) {
        Bound b = new Bound(due, "3",
            "of all pairs i < j of places 1 .., by i, then j: the first that makes the WEIGHT less");
        ordered(b, "of one", States.one(1).then(go(0, 0, 5)), LOCAL, 10, "0");
        ordered(b, "of two", States.one(2).then(go(1, 0, 5)), LOCAL, 10, "0 1");
        ordered(b, "the only pair", States.one(3).then(go(0, 2, 1)), LOCAL, 0, "0 2 1");
        ordered(b, "place 0 is in no pair", States.one(3).then(go(1, 0, 9)).then(go(2, 0, 9)), LOCAL, 36, "0 1 2");
        ordered(b, "the outermost pair", States.one(9).then(go(0, 8, 5)).then(go(1, 0, 3)), LOCAL, 6,
            "0 8 2 3 4 5 6 7 1");
        Bound.Told alike = States.one(4).then(go(0, 1, 1)).then(go(2, 1, 1)).then(x -> x.move(3, 1));
        // 0 3 1 2 has 4; 0 1 .. has 2 and is met first, then none is less.
        ordered(b, "not one that is alike", alike, LOCAL, 2, "0 1 3 2");
        ordered(b, "none makes it less", States.one(4).then(x -> x.move(3, 1)), LOCAL, 0, "0 3 1 2");
    }

    private static void localByTurns(Due due) {
        Bound b = new Bound(due, "3",
            "or, if no pair does so: those from i to j are turned round; or, if none: the one at i comes to j "
                + "(those behind it to j one ahead); or: the one at j comes to i; till none does.");
        ordered(b, "change places", States.one(5).then(go(3, 2, 5)), LOCAL, 0, "0 3 2 1 4");
        ordered(b, "turned round", States.one(5).then(go(0, 4, 1)).then(go(1, 2, 1)).then(go(3, 2, 1)), LOCAL, 2,
            "0 4 3 2 1");
        ordered(b, "i comes to j", States.one(4).then(go(3, 1, 1)), LOCAL, 0, "0 2 3 1");
        ordered(b, "j comes to i", States.one(4).then(go(0, 3, 1)).then(go(1, 2, 1)), LOCAL, 0, "0 3 1 2");
        Bound.Told far = States.one(9).then(go(0, 8, 1));
        for (int block = 1; block <= 6; block++) {
            far = far.then(go(block, block + 1, 1));
        }
        ordered(b, "the last comes to the first place", far, LOCAL, 0, "0 8 1 2 3 4 5 6 7");
    }

    private static void localAnew(Due due) {
        Bound b = new Bound(due, "3", "till none does. (After each change all anew.)");
        ordered(b, "two changes", States.one(7).then(go(0, 2, 5)).then(go(4, 6, 5)), LOCAL, 0, "0 2 1 3 5 4 6");
        // 0 3 2 1 4, then 0 4 2 1 3, then 0 4 3 1 2, then this one.
        ordered(b, "four changes", States.one(5).then(go(0, 4, 5)).then(go(4, 3, 5)).then(go(3, 2, 1)),
            LOCAL, 0, "0 4 3 2 1");
        FallRows x = Bound.made(States.one(7).then(go(0, 2, 5)).then(go(4, 6, 5)).then(y -> y.order(0, LOCAL)));
        b.is("none more", x.order(0, LOCAL), 0);
        b.are("none more", LayoutTest.row(x), "0 2 1 3 5 4 6");
    }

    private static void chainsByCounts(Due due) {
        Bound b = new Bound(due, "3", "WAYS with a COUNT above 0 (of GO, CALL, GUARDED WAY 0, of TEST both)");
        ordered(b, "a COUNT of 0", States.one(4).then(go(2, 1, 0)), CHAINS, 0, "0 1 2 3");
        ordered(b, "a COUNT of 1", States.one(4).then(go(2, 1, 1)), CHAINS, 0, "0 2 1 3");
        Bound.Told call = States.one(4).then(States.end(2, CALL, 1, 0));
        ordered(b, "CALL, 0", call, CHAINS, 0, "0 1 2 3");
        ordered(b, "CALL, 1", call.then(x -> x.count(2, 0, 1)), CHAINS, 0, "0 2 1 3");
        ordered(b, "GUARDED WAY 0", States.one(4).then(two(GUARDED, 2, 1, 1, 3, 0)), CHAINS, 0, "0 2 1 3");
        ordered(b, "not GUARDED WAY 1", States.one(4).then(two(GUARDED, 2, 3, 0, 1, 9)), CHAINS, 0, "0 1 2 3");
        ordered(b, "TEST WAY 0", States.one(4).then(two(TEST, 2, 1, 1, 3, 0)), CHAINS, 1, "0 2 1 3");
        ordered(b, "TEST WAY 1", States.one(4).then(two(TEST, 2, 3, 0, 1, 1)), CHAINS, 1, "0 2 1 3");
        ordered(b, "not TABLE", States.one(4).then(two(TABLE, 2, 1, 9, 1, 9)), CHAINS, 0, "0 1 2 3");
        ordered(b, "no COUNTS", States.one(9).then(x -> x.move(8, 1)), CHAINS, 0, "0 1 2 3 4 5 6 7 8");
        ordered(b, "of one", States.one(1).then(go(0, 0, 5)), CHAINS, 10, "0");
    }

    private static void chainsInTurn(Due due) {
        Bound b = new Bound(due, "3", "by COUNTS, the greatest first, then by BLOCKS, then by WAYS");
        Bound.Told three = States.one(4);
        ordered(b, "the greatest first", three.then(go(1, 3, 1)).then(go(2, 3, 2)), CHAINS, 2, "0 1 2 3");
        ordered(b, "by BLOCKS", three.then(go(1, 3, 2)).then(go(2, 3, 2)), CHAINS, 4, "0 1 3 2");
        ordered(b, "by WAYS", three.then(two(TEST, 0, 3, 2, 2, 2)), CHAINS, 2 + 6, "0 3 2 1");
        ordered(b, "a greater WAY 1", three.then(two(TEST, 0, 3, 2, 2, 3)), CHAINS, 6 + 3, "0 2 3 1");
        ordered(b, "1 behind a greater one", three.then(go(0, 3, 5)).then(go(2, 1, 1)), CHAINS, 0, "0 3 2 1");
        Bound.Told all = three.then(two(TEST, 0, 0, 9, 0, 9)).then(two(TEST, 1, 0, 9, 0, 9))
            .then(two(TEST, 2, 0, 9, 0, 9)).then(two(TEST, 3, 0, 9, 1, 1));
        ordered(b, "all eight, of which the last one counts", all, CHAINS, 3 * 54 + 27 + 1, "0 2 3 1");
    }

    private static void chainsJoin(Due due) {
        Bound b = new Bound(due, "3",
            "if the BLOCK is the last of its CHAIN, and the WAY's is the first of another one, and not the "
                + "ROUTINE's first, both become one.");
        ordered(b, "not the last of its CHAIN", States.one(4).then(two(TEST, 0, 3, 9, 1, 8)), CHAINS, 9 + 24, "0 3 1 2");
        ordered(b, "not the first of another", States.one(4).then(go(2, 3, 9)).then(go(1, 3, 8)), CHAINS, 16, "0 1 2 3");
        ordered(b, "not of its own", States.one(4).then(go(2, 1, 9)).then(go(1, 2, 8)), CHAINS, 16, "0 2 1 3");
        ordered(b, "not itself", States.one(3).then(go(1, 1, 9)).then(go(0, 2, 1)), CHAINS, 18, "0 2 1");
        ordered(b, "not the ROUTINE's first", States.one(3).then(go(2, 0, MOST)), CHAINS, 2 * MOST, "0 1 2");
        Bound.Told all = States.one(9);
        for (int block = 0; block < 9; block++) {
            all = all.then(go(block, block == 0 ? 8 : block - 1, 1 + block));
        }
        ordered(b, "nine of them", all, CHAINS, 4, "0 8 7 6 5 4 3 2 1");
    }

    private static void chainsPlaced(Due due) {
        Bound b = new Bound(due, "3",
            "then always the one to which WAYS of what is there lead by the greatest sum of COUNTS (of several "
                + "that with the least first BLOCK)");
        // CHAINS 0, 2, 3 1: by their first BLOCKS 2 is the least, not the one that 1 is in.
        ordered(b, "of several", States.one(4).then(go(3, 1, 5)), CHAINS, 0, "0 2 3 1");
        Bound.Told table = States.one(4).then(States.end(0, TABLE, 3, 2, 3, -1));
        ordered(b, "all alike", table, CHAINS, 0, "0 1 2 3");
        Bound.Told sum = table.then(x -> x.count(0, 0, 2)).then(x -> x.count(0, 1, 3));
        ordered(b, "the greatest", sum, CHAINS, 0, "0 2 3 1");
        ordered(b, "two of these alike", sum.then(x -> x.count(0, 2, 1)), CHAINS, 0, "0 2 3 1");
        ordered(b, "the greatest sum", sum.then(x -> x.count(0, 2, 2)), CHAINS, 0, "0 3 2 1");
        ordered(b, "of what is there, not of what is to come",
            States.one(5).then(two(TABLE, 4, 3, MOST, 3, MOST)), CHAINS, 0, "0 1 2 3 4");
    }

    private static void chainsAgain(Due due) {
        Bound b = new Bound(due, "3", "CHAINS: each BLOCK is one");
        FallRows x = Bound.made(States.one(9).then(y -> y.routine()).then(States.blocks(1, 4)).then(go(8, 1, 5))
            .then(two(TEST, 11, 9, 0, 10, 5)));
        for (int time = 1; time <= 2; time++) {
            b.is("ROUTINE 1, time " + time, x.order(1, CHAINS), 5);
            b.are("ROUTINE 1, time " + time, LayoutTest.row(x), "0 1 2 3 4 5 6 7 8 9 11 10 12");
            b.is("ROUTINE 0, time " + time, x.order(0, CHAINS), 0);
            b.are("ROUTINE 0, time " + time, LayoutTest.row(x), "0 2 3 4 5 6 7 8 1 9 11 10 12");
            x.order(0, CAME);
            x.order(1, CAME);
        }
        x.order(1, CHAINS);
        x.order(1, CAME);
        b.is("ROUTINE 1, none of another one between", x.order(1, CHAINS), 5);
    }

    // ---- Promises

    private static void ordersRefused(Due due) {
        Bound b = new Bound(due, "10",
            "how = 0 as they came, 1 BEST, 2 LOCAL (from what it is), 3 by CHAINS: its WEIGHT. BAD: also "
                + "without BLOCKS.");
        for (int how = CAME; how <= CHAINS; how++) {
            int sort = how;
            b.answers("the only BLOCK, how " + how, States::rich, x -> x.order(2, sort), 0);
            b.refuses("without BLOCKS, how " + how, States::rich, x -> x.order(3, sort), BAD);
            b.refuses("without BLOCKS, all full, how " + how, States::full, x -> x.order(5, sort), BAD);
            for (int routine : new int[] {-1, 4, 6, BELOW, ABOVE}) {
                b.refuses("ROUTINE " + routine + ", how " + how, States::rich, x -> x.order(routine, sort), BAD);
            }
        }
        for (int how : new int[] {-1, 4, BELOW, ABOVE}) {
            b.refuses("how " + how, States::rich, x -> x.order(0, how), BAD);
        }
        FallRows x = Bound.made(States::rich);
        b.is("as they came", x.order(0, CAME), 5 + 27 + 0 + 12);
        b.are("as they came", LayoutTest.row(x), "0 2 3 1 6 7 5 4");
        b.is("one more to undo", x.has(6), 4);
        ordered(b, "nine as they came", States.one(9).then(y -> y.move(1, 8)).then(y -> y.move(8, 1)), CAME, 0,
            "0 1 2 3 4 5 6 7 8");
        x = Bound.made(States.one(4).then(go(0, 2, 1)).then(y -> y.swap(2, 3)).then(y -> y.swap(1, 2)));
        b.is("LOCAL from what it is", x.order(0, LOCAL), 0);
        b.are("LOCAL from what it is", LayoutTest.row(x), "0 2 3 1");
    }

    private static void weightsRefused(Due due) {
        Bound b = new Bound(due, "13",
            "WEIGHT of a ROUTINE's order (0), that of BEST (1), BOUND (2), pairs that fall: BLOCKS of which a "
                + "WAY is NEXT in its order (3). BAD: also without BLOCKS.");
        for (int what = 0; what <= 3; what++) {
            int asked = what;
            b.answers("the only BLOCK, what " + what, States::rich, x -> x.weight(2, asked), 0);
            b.refuses("without BLOCKS, what " + what, States::rich, x -> x.weight(3, asked), BAD);
            for (int routine : new int[] {-1, 4, 6, BELOW, ABOVE}) {
                b.refuses("ROUTINE " + routine + ", what " + what, States::rich, x -> x.weight(routine, asked), BAD);
            }
            b.changesNothing("weight(0, " + what + ")", States::rich, x -> x.weight(0, asked));
        }
        for (int what : new int[] {-1, 4, BELOW, ABOVE}) {
            b.refuses("what " + what, States::rich, x -> x.weight(0, what), BAD);
        }
    }

    private static void pairsThatFall(Due due) {
        Bound b = new Bound(due, "13", "pairs that fall: BLOCKS of which a WAY is NEXT in its order (3)");
        b.answers("none", States.one(9), x -> x.weight(0, 3), 0);
        b.answers("the only one", States.one(1).then(go(0, 0, 1)), x -> x.weight(0, 3), 0);
        b.answers("not the last one", States.one(2).then(go(1, 0, 1)), x -> x.weight(0, 3), 0);
        b.answers("both WAYS count once", States.one(2).then(two(TEST, 0, 1, 1, 1, 1)), x -> x.weight(0, 3), 1);
        b.answers("a COUNT of 0 is enough", States.one(2).then(go(0, 1, 0)), x -> x.weight(0, 3), 1);
        b.answers("the last WAY of TABLE", States.one(2).then(States.end(0, TABLE, 0, 0, 0, 1)), x -> x.weight(0, 3), 1);
        b.answers("WAY 1 of GUARDED", States.one(2).then(two(GUARDED, 0, 0, 1, 1, 1)), x -> x.weight(0, 3), 1);
        Bound.Told all = States.one(9).then(x -> {
            for (int block = 0; block < 9; block++) {
                x.end(block, GO, (block + 1) % 9, 0, 0, 0);
            }
        });
        b.answers("all but the last", all, x -> x.weight(0, 3), 8);
        b.answers("in its order, not in THE ROW", all.then(x -> x.cold(4, true)).then(x -> x.set(0, 1)),
            x -> x.weight(0, 3), 8);
    }

    public static void main(String[] args) {
        Due due = new Due();
        asIfAlone(due);
        weights(due);
        weightsOfTests(due);
        best(due);
        bound(due);
        local(due);
        localByTurns(due);
        localAnew(due);
        chainsByCounts(due);
        chainsInTurn(due);
        chainsJoin(due);
        chainsPlaced(due);
        chainsAgain(due);
        ordersRefused(due);
        weightsRefused(due);
        pairsThatFall(due);
        due.finish();
    }
}

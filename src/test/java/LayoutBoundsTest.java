/** The boundaries that section 2 of 'Terms' (but for runs) and promises 8, 9, 11, 12, 14 to 17 name. */
final class LayoutBoundsTest {
    private static final int BAD = FallRows.BAD, STATE = FallRows.STATE, NONE = FallRows.NONE;
    private static final int BELOW = Integer.MIN_VALUE, ABOVE = Integer.MAX_VALUE;
    private static final int GO = 2, TEST = 3, TABLE = 4, CALL = 5, GUARDED = 6;
    private static final int[] ALIGNS = {1, 2, 4, 8, 16};

    // ---- Terms: THE ROW

    private static void oneThatComesIsLast(Due due) {
        Bound b = new Bound(due, "2", "(at first as they came; one that comes is last)");
        FallRows x = Bound.made(States.one(4).then(y -> y.move(3, 1)));
        b.are("another order", LayoutTest.row(x), "0 3 1 2");
        x.block(0, 1);
        b.are("one came", LayoutTest.row(x), "0 3 1 2 4");
        b.is("its place", x.about(4, 4), 4);
        x.routine();
        x.block(1, 1);
        x.block(0, 1);
        b.are("one came behind another ROUTINE's", LayoutTest.row(x), "0 3 1 2 4 6 5");
    }

    private static void coldOnesBehindAll(Due due) {
        Bound b = new Bound(due, "2", "with APART on the COLD ones are left out there, and come behind all others");
        Bound.Told two = States.routines(3).then(States.blocks(0, 3)).then(States.blocks(2, 3));
        b.are("none is COLD", LayoutTest.row(Bound.made(two.then(x -> x.set(0, 1)))), "0 1 2 3 4 5");
        Bound.Told all = two.then(x -> {
            for (int block : new int[] {1, 2, 4, 5}) {
                x.cold(block, true);
            }
        });
        b.are("all are that may be, APART off", LayoutTest.row(Bound.made(all)), "0 1 2 3 4 5");
        FallRows x = Bound.made(all.then(y -> y.set(0, 1)));
        b.are("all are that may be", LayoutTest.row(x), "0 3 1 2 4 5");
        x.swap(1, 2);
        x.swap(4, 5);
        b.are("in their order", LayoutTest.row(x), "0 3 2 1 5 4");
        x.cold(2, false);
        b.are("one is no more", LayoutTest.row(x), "0 2 3 1 5 4");
        x.set(0, 0);
        b.are("APART off again", LayoutTest.row(x), "0 2 1 3 5 4");
    }

    private static void noneBehindTheLast(Due due) {
        Bound b = new Bound(due, "2", "NEXT in THE ROW (the BLOCK right behind; none behind the last one)");
        Bound.Told two = States.one(2);
        b.are("GO to what is right behind", image(two.then(States.end(0, GO, 1))), "0 1 195");
        b.are("the last one's GO to the first", image(two.then(States.end(1, GO, 0))), "0 195 1 235 251");
        b.are("the last one's GO to itself", image(two.then(States.end(1, GO, 1))), "0 195 1 235 253");
        b.are("the only one's GO to itself", image(States.one(1).then(States.end(0, GO, 0))), "0 235 253");
        b.are("the last one's CALL", image(two.then(States.end(1, CALL, 0, 0))), "0 195 1 232 248 255 255 255 235 246");
        b.are("the last one's TEST", image(two.then(States.end(1, TEST, 0, 1))), "0 195 1 112 251 235 251");
        Bound.Told apart = States.routines(2).then(States.blocks(0, 2)).then(States.blocks(1, 2))
            .then(x -> x.cold(1, true)).then(x -> x.cold(3, true)).then(States.end(0, GO, 1)).then(States.end(1, GO, 0));
        b.are("NEXT in its order, APART off", image(apart), "0 1 235 252 2 195 3 195");
        Bound.Told alone = States.routines(2).then(States.blocks(0, 1)).then(States.blocks(1, 2)).then(x -> x.cold(2, true))
            .then(x -> x.set(0, 1)).then(States.end(1, GO, 2));
        b.are("a COLD one is NEXT, APART on", image(alone), "0 195 1 2 195");
        b.are("not NEXT in THE ROW, APART on", image(apart.then(x -> x.set(0, 1))), "0 235 2 2 195 1 235 248 3 195");
    }

    // ---- Terms: ENDS become bytes

    private static String image(Bound.Told state) {
        FallRows x = Bound.made(state);
        return LayoutTest.image(x, 0, x.told(0));
    }

    private static void testWithBothNext(Due due) {
        Bound b = new Bound(due, "2", "TEST: WAY 1 is NEXT (also if both are): a TEST JUMP to WAY 0");
        Bound.Told three = States.one(3);
        b.are("both are", image(three.then(States.end(0, TEST, 1, 1))), "0 112 0 1 195 2 195");
        b.are("WAY 1 is", image(three.then(States.end(0, TEST, 2, 1))), "0 112 2 1 195 2 195");
        b.are("WAY 0 is", image(three.then(States.end(0, TEST, 1, 2))), "0 113 2 1 195 2 195");
        b.are("none is", image(three.then(States.end(0, TEST, 2, 2))), "0 112 4 235 2 1 195 2 195");
        b.are("none can be", image(States.one(1).then(States.end(0, TEST, 0, 0))), "0 112 253 235 251");
    }

    private static void tableAtEachAddress(Due due) {
        Bound b = new Bound(due, "2",
            "then bytes 0, until the address is a multiple of 4 (the first of both at any address)");
        String[] fill = {" 0 0", " 0", "", " 0 0 0"};
        for (int size = 1; size <= 200; size += size < 9 || size >= 193 ? 1 : 23) {
            int bytes = size;
            FallRows x = Bound.made(States.routines(1).then(y -> y.block(0, bytes)).then(States.end(0, TABLE, 0)));
            b.are("behind " + size, LayoutTest.image(x, size, x.told(0)), "255 36" + fill[size % 4] + " 0 0 0 0");
            b.is("behind " + size + ", to a multiple of 4", x.told(0) % 4, 0);
        }
        for (int n = 1; n <= 4; n++) {
            int ways = n;
            FallRows x = Bound.made(States.one(2)
                .then(y -> y.end(1, TABLE, 1, ways > 1 ? 0 : -1, ways > 2 ? 1 : -1, ways > 3 ? 1 : -1)));
            b.is("of " + n + " WAYS", x.laid(1, 2), 5 + 4 * n);
            b.are("of " + n + " WAYS, the last one", LayoutTest.image(x, 4 + 4 * n, 9 + 4 * n),
                n == 2 ? "0 0 0 0 -9" : "2 0 0 0 -9");
        }
    }

    private interface Shape {
        Bound.Told of(int filler);
    }

    private static Bound.Told sizes(int... sizes) {
        return States.routines(1).then(x -> {
            for (int size : sizes) {
                x.block(0, size);
            }
        });
    }

    /** A jump that stands so many bytes ahead in its END, with d at the boundary; one byte more of filler is beyond. */
    private static void edge(Bound b, String sort, Shape shape, int block, int filler, int ahead, String bytes) {
        FallRows x = Bound.made(shape.of(filler));
        int jumps = x.laid(block, 4);
        int from = x.laid(block, 1) - x.laid(block, 2) + ahead;
        b.are(sort + " at the boundary", LayoutTest.image(x, from, from + 2), bytes);
        b.is(sort + ": LONG ones at the boundary", x.told(3), 0);
        b.is(sort + ": TURNS at the boundary", x.told(4), 0);
        b.is(sort + ": runs at the boundary", x.differ(), NONE);
        x = Bound.made(shape.of(filler + 1));
        b.is(sort + ": LONG ones beyond", x.laid(block, 3), 1);
        b.is(sort + ": in TURN", x.laid(block, 5), 1);
        b.is(sort + ": TURNS beyond", x.told(4), 1);
        b.is(sort + ": LONG ones in all", x.told(3), 1);
        b.is(sort + ": SHORT ones in all", x.told(2), jumps - 1);
        b.is(sort + ": runs beyond", x.differ(), NONE);
    }

    /** On: BLOCK 0 of one byte, a filler with BACK, then BLOCK 2. */
    private static void shortOn(Due due) {
        Bound b = new Bound(due, "2", "SHORT ones in 1 byte (-128 .. 127)");
        edge(b, "GO", f -> sizes(1, f, 1).then(States.end(0, GO, 2)), 0, 126, 0, "235 127");
        edge(b, "CALL's WAY", f -> sizes(1, f, 1).then(States.end(0, CALL, 2, 0)), 0, 126, 5, "235 127");
        edge(b, "GUARDED", f -> sizes(1, f, 1).then(States.end(0, GUARDED, 2, 1)), 0, 126, 0, "235 127");
        edge(b, "TEST JUMP", f -> sizes(1, f, 1).then(States.end(0, TEST, 2, 1)), 0, 126, 0, "112 127");
        edge(b, "TURNED one", f -> sizes(1, f, 1).then(States.end(0, TEST, 1, 2)), 0, 126, 0, "113 127");
        edge(b, "TEST JUMP ahead of a JUMP", f -> sizes(1, f, 1).then(States.end(0, TEST, 2, 0)), 0, 124, 0, "112 127");
        edge(b, "JUMP behind a TEST JUMP", f -> sizes(1, f, 1).then(States.end(0, TEST, 0, 2)), 0, 126, 2, "235 127");
    }

    /** Back: a filler with BACK, then BLOCK 1 of one byte that goes to it; BLOCK 2 is behind. */
    private static void shortBack(Due due) {
        Bound b = new Bound(due, "2", "SHORT ones in 1 byte (-128 .. 127)");
        edge(b, "GO", f -> sizes(f, 1, 1).then(States.end(1, GO, 0)), 1, 124, 0, "235 128");
        edge(b, "CALL's WAY", f -> sizes(f, 1, 1).then(States.end(1, CALL, 0, 0)), 1, 119, 5, "235 128");
        edge(b, "GUARDED", f -> sizes(f, 1, 1).then(States.end(1, GUARDED, 0, 1)), 1, 124, 0, "235 128");
        edge(b, "TEST JUMP", f -> sizes(f, 1, 1).then(States.end(1, TEST, 0, 2)), 1, 124, 0, "112 128");
        edge(b, "TURNED one", f -> sizes(f, 1, 1).then(States.end(1, TEST, 2, 0)), 1, 124, 0, "113 128");
        edge(b, "TEST JUMP ahead of a JUMP", f -> sizes(f, 1, 1).then(States.end(1, TEST, 0, 1)), 1, 124, 0, "112 128");
        edge(b, "JUMP behind a TEST JUMP", f -> sizes(f, 1, 1).then(States.end(1, TEST, 1, 0)), 1, 122, 2, "235 128");
        edge(b, "GO to itself", f -> sizes(f).then(States.end(0, GO, 0)), 0, 126, 0, "235 128");
    }

    private static void longBytes(Due due) {
        Bound b = new Bound(due, "2", "others in 4, the lowest first");
        FallRows x = Bound.made(sizes(1, 127, 1).then(States.end(0, GO, 2)));
        b.are("a JUMP of 128", LayoutTest.image(x, 1, 7), "233 128 0 0 0 1");
        x = Bound.made(sizes(1, 200, 49, 1).then(States.end(0, GO, 3)));
        b.are("a JUMP of 251", LayoutTest.image(x, 1, 7), "233 251 0 0 0 1");
        x = Bound.made(sizes(1, 200, 53, 1).then(States.end(0, GO, 3)));
        b.are("a JUMP of 255", LayoutTest.image(x, 1, 7), "233 255 0 0 0 1");
        x = Bound.made(sizes(1, 200, 54, 1).then(States.end(0, GO, 3)));
        b.are("a JUMP of 256", LayoutTest.image(x, 1, 7), "233 0 1 0 0 1");
        x = Bound.made(sizes(127, 1).then(States.end(0, GO, 0)));
        b.are("a JUMP of -132", LayoutTest.image(x, 127, 132), "233 124 255 255 255");
        x = Bound.made(sizes(200, 46, 1).then(States.end(2, TEST, 0, 2)));
        b.are("a TEST JUMP of -255", LayoutTest.image(x, 249, 257), "15 128 1 255 255 255 235 247");
        x = Bound.made(sizes(200, 47, 1).then(States.end(2, TEST, 0, 2)));
        b.are("a TEST JUMP of -256", LayoutTest.image(x, 250, 258), "15 128 0 255 255 255 235 247");
        x = Bound.made(sizes(200, 48, 1, 1).then(States.end(2, TEST, 3, 0)));
        b.are("a TURNED one of -257", LayoutTest.image(x, 251, 258), "15 129 255 254 255 255 3");
        x = Bound.made(sizes(1, 1).then(States.end(0, CALL, 1, 0)));
        b.are("a CALL is never SHORT", LayoutTest.image(x, 0, 7), "0 232 250 255 255 255 1");
        b.are("a CALL is none of the JUMPS", LayoutTest.laid(x, 0), "0 6 5 0 0 0");
    }

    private static void aligned(Due due) {
        Bound b = new Bound(due, "2",
            "each BLOCK at the next multiple of ALIGN (1, 2, 4, 8, 16; 1 at first), bytes 144 between");
        b.answers("1 at first", States::none, x -> x.has(4), 1);
        for (int align : ALIGNS) {
            Bound.Told fits = sizes(2 * align - 1, 1).then(x -> x.set(1, align));
            b.answers("ALIGN " + align + ", none between", fits, x -> x.laid(1, 0), 2 * align);
            b.answers("ALIGN " + align + ", none between", fits, x -> x.told(1), 0);
            Bound.Told beyond = sizes(2 * align, 1).then(x -> x.set(1, align));
            FallRows x = Bound.made(beyond);
            int start = align == 1 ? 3 : 3 * align;
            b.is("ALIGN " + align + ", the most between", x.laid(1, 0), start);
            b.is("ALIGN " + align + ", the most between", x.told(1), align - 1);
            b.is("ALIGN " + align + ", ahead of these", x.image(2 * align), 195);
            for (int i = 2 * align + 1; i < start; i++) {
                b.is("ALIGN " + align + ", byte " + i, x.image(i), 144);
            }
            b.is("ALIGN " + align + ", behind these", x.image(start), 1);
            b.is("ALIGN " + align + ", none behind the last BLOCK", x.told(0), start + 2);
            b.is("ALIGN " + align + ", the row begins at 0", x.laid(0, 0), 0);
        }
    }

    private static void tableBehindAll(Due due) {
        Bound b = new Bound(due, "2",
            "Behind all, for each GUARDED one in THE ROW's order: its address and that of WAY 1, in 4 bytes "
                + "each.");
        b.answers("none is", States.one(3), x -> x.told(5), 0);
        Bound.Told one = sizes(200, 99, 1).then(States.end(1, GUARDED, 2, 0)).then(x -> x.set(1, 16));
        b.answers("one is", one, x -> x.told(5), 8);
        FallRows x = Bound.made(one);
        b.are("right behind the last BLOCK's END", LayoutTest.image(x, x.laid(2, 1), x.told(0) + 1),
            "208 0 0 0 0 0 0 0 -9");
        Bound.Told two = States.one(3).then(States.end(1, GUARDED, 2, 1)).then(States.end(2, GUARDED, 0, 2));
        b.are("two are", image(two), "0 195 1 2 235 250 2 0 0 0 2 0 0 0 3 0 0 0 3 0 0 0");
        b.are("in THE ROW's order", image(two.then(y -> y.swap(1, 2))),
            "0 195 2 235 251 1 235 250 2 0 0 0 2 0 0 0 5 0 0 0 5 0 0 0");
        Bound.Told all = States.routines(5).then(y -> {
            for (int block = 0; block < 40; block++) {
                y.block(block / 8, 200);
                y.end(block, GUARDED, block, block, 0, 0);
            }
        });
        b.answers("all 40 are", all, y -> y.told(5), 320);
        b.answers("all 40 are", all, y -> y.told(0), 40 * 205 + 320);
        b.answers("the last byte of these", all, y -> y.image(8519), 0);
        b.answers("the last address of these", all, y -> y.image(8516) + 256 * y.image(8517), 39 * 205);
        b.answers("no byte more", all, y -> y.image(8520), NONE);
    }

    private static void turns(Due due) {
        Bound b = new Bound(due, "2", "in a TURN all that do not reach become LONG together (as all lies then)");
        b.answers("no TURN", States.one(2).then(States.end(1, GO, 0)), x -> x.told(4), 0);
        // GO of BLOCK 0 reaches 127 as long as that of BLOCK 1, which it passes over, is SHORT.
        FallRows x = Bound.made(sizes(1, 100, 24, 1, 200, 1).then(States.end(0, GO, 3)).then(States.end(1, GO, 5)));
        b.are("the one in between, first", LayoutTest.laid(x, 1), "6 111 5 1 1 1");
        b.are("then the one around it", LayoutTest.laid(x, 0), "0 6 5 1 1 2");
        b.is("TURNS", x.told(4), 2);
        x = Bound.made(sizes(1, 100, 23, 1, 200, 1).then(States.end(0, GO, 3)).then(States.end(1, GO, 5)));
        b.is("one byte less: 3 more make 129", x.laid(0, 5), 2);
        x = Bound.made(sizes(1, 100, 21, 1, 200, 1).then(States.end(0, GO, 3)).then(States.end(1, GO, 5)));
        b.are("so that 3 more make 127", LayoutTest.laid(x, 0), "0 3 2 0 1 0");
        b.is("TURNS", x.told(4), 1);
        // Both would reach if the other one stayed SHORT: they become LONG in one TURN all the same.
        x = Bound.made(sizes(1, 127, 1).then(States.end(0, TEST, 2, 2)));
        b.are("together", LayoutTest.laid(x, 0), "0 12 11 2 2 1");
    }

    /** Each GO goes over the BLOCK behind it, so d is the SIZE of that one and its 2 bytes, or 5. */
    private static FallRows overOne(int... sizes) {
        return Bound.made(sizes(sizes).then(x -> {
            for (int block = 0; block <= 6; block++) {
                x.end(block, GO, block + 2, 0, 0, 0);
            }
        }));
    }

    private static String turnsOfEach(FallRows x) {
        StringBuilder all = new StringBuilder();
        for (int block = 0; block <= 6; block++) {
            all.append(block == 0 ? "" : " ").append(x.laid(block, 5));
        }
        return all.toString();
    }

    private static void turnsOneByOne(Due due) {
        Bound b = new Bound(due, "2", "then all lies anew; till all reach.");
        FallRows x = overOne(60, 125, 124, 125, 124, 125, 124, 127, 1);
        b.are("one behind the other", turnsOfEach(x), "7 6 5 4 3 2 1");
        b.is("TURNS", x.told(4), 7);
        b.is("LONG ones", x.told(3), 7);
        b.is("runs", x.differ(), NONE);
        x = overOne(60, 125, 124, 122, 124, 125, 124, 127, 1);
        b.are("127 is reached still", turnsOfEach(x), "0 0 0 4 3 2 1");
        b.is("TURNS", x.told(4), 4);
        x = overOne(60, 125, 124, 125, 124, 125, 124, 126, 1);
        b.are("127 is reached at first", turnsOfEach(x), "0 0 0 0 0 0 0");
        b.is("TURNS", x.told(4), 0);
    }

    private static void shortAtFirst(Due due) {
        Bound b = new Bound(due, "2", "All SHORT at first");
        FallRows x = Bound.made(sizes(1, 127, 1, 1).then(States.end(0, TEST, 2, 2)));
        b.are("LONG ones", LayoutTest.laid(x, 0), "0 12 11 2 2 1");
        b.are("LONG ones", LayoutTest.told(x), "144 0 0 2 1 0");
        x.move(1, 3);
        x.move(3, 1);
        b.are("of another order, SHORT again", LayoutTest.laid(x, 0), "0 5 4 0 2 0");
        b.are("of another order, SHORT again", LayoutTest.told(x), "137 0 2 0 0 0");
        b.are("their bytes", LayoutTest.image(x, 0, 9), "0 112 4 235 2 3 195 2 195");
        x = Bound.made(sizes(1, 127, 1).then(States.end(2, TEST, 0, 0)));
        b.are("the last BLOCK's LONG ones", LayoutTest.laid(x, 2), "130 142 11 2 2 1");
        x.swap(1, 2);
        b.are("once the last BLOCK's, SHORT again", LayoutTest.laid(x, 2), "2 7 4 0 2 0");
    }

    private static void noneGetsShortAgain(Due due) {
        Bound b = new Bound(due, "2", "(None gets SHORT again.)");
        // Of the JUMP's 3 bytes more the TABLE's 3 bytes 0 make room: BLOCK 2 stays where it was.
        FallRows x = Bound.made(sizes(2, 107, 1).then(States.end(0, GO, 2)).then(States.end(1, TABLE, 0, 1, 2, 2)));
        b.are("LONG, though 125 would reach", LayoutTest.laid(x, 0), "0 7 5 1 1 1");
        b.are("LONG, though 125 would reach", LayoutTest.image(x, 2, 8), "233 125 0 0 0 1");
        b.is("where it goes", x.laid(2, 0), 132);
        b.are("told", LayoutTest.told(x), "134 0 0 1 1 0");
        b.is("runs", x.differ(), NONE);
    }

    // ---- Promises

    private static void moves(Due due) {
        Bound b = new Bound(due, "8",
            "A BLOCK comes to a place (1 .. ) of its ROUTINE's order; those between move by one");
        Bound.Told nine = States.routines(2).then(States.blocks(0, 9)).then(States.blocks(1, 2));
        b.are("from the first place to the last", LayoutTest.row(Bound.made(nine.then(x -> x.move(1, 8)))),
            "0 2 3 4 5 6 7 8 1 9 10");
        b.are("from the last place to the first", LayoutTest.row(Bound.made(nine.then(x -> x.move(8, 1)))),
            "0 8 1 2 3 4 5 6 7 9 10");
        b.answers("from the last place", nine, x -> x.move(8, 1), 8);
        b.answers("to the last place", nine, x -> x.move(1, 8), 1);
        b.answers("to where it is", nine, x -> x.move(8, 8), 8);
        b.are("to where it is", LayoutTest.row(Bound.made(nine.then(x -> x.move(8, 8)))), "0 1 2 3 4 5 6 7 8 9 10");
        b.answers("the only place", nine, x -> x.move(10, 1), 1);
    }

    private static void movesRefused(Due due) {
        Bound b = new Bound(due, "8", "BAD: the first BLOCK, such a place.");
        for (int place : new int[] {0, -1, 4, 5, 9, BELOW, ABOVE}) {
            b.refuses("to place " + place, States::rich, x -> x.move(5, place), BAD);
        }
        b.answers("to the last place", States::rich, x -> x.move(5, 3), 2);
        b.refuses("to place 2 of two", States.one(2), x -> x.move(1, 2), BAD);
        for (int first : new int[] {0, 1, 7}) {
            for (int place : new int[] {0, 1, 2}) {
                b.refuses("the first BLOCK " + first + " to " + place, States::rich, x -> x.move(first, place), BAD);
            }
        }
        for (int block : new int[] {-1, 8, 40, BELOW, ABOVE}) {
            b.refuses("BLOCK " + block, States::rich, x -> x.move(block, 1), BAD);
        }
        b.refuses("with 12 kept", States::full, x -> x.move(1, 9), BAD);
    }

    private static void swaps(Due due) {
        Bound b = new Bound(due, "9",
            "Two BLOCKS of one ROUTINE change places: 1. BAD: also the first one, of two ROUTINES.");
        b.are("the outermost", LayoutTest.row(Bound.made(States.one(9).then(x -> x.swap(8, 1)))), "0 8 2 3 4 5 6 7 1");
        b.answers("the outermost", States.one(9), x -> x.swap(1, 8), 1);
        b.refuses("the first one", States::rich, x -> x.swap(0, 2), BAD);
        b.refuses("with the first one", States::rich, x -> x.swap(2, 0), BAD);
        b.refuses("the first one with itself", States::rich, x -> x.swap(0, 0), BAD);
        b.refuses("the first ones of two", States::rich, x -> x.swap(0, 1), BAD);
        b.refuses("of two ROUTINES", States::rich, x -> x.swap(2, 4), BAD);
        b.refuses("of two ROUTINES", States::rich, x -> x.swap(6, 3), BAD);
        for (int block : new int[] {-1, 8, 40, BELOW, ABOVE}) {
            b.refuses("BLOCK " + block, States::rich, x -> x.swap(block, 2), BAD);
            b.refuses("with BLOCK " + block, States::rich, x -> x.swap(2, block), BAD);
        }
        b.refuses("with 12 kept", States::full, x -> x.swap(1, 10), BAD);
    }

    /** Moves BLOCK 3 of four to and fro between places 1 and 2; behind n of them it is at 1 if n is odd. */
    private static Bound.Told toAndFro(int n) {
        return States.one(4).then(x -> x.move(3, 2)).then(x -> x.order(0, 0)).then(x -> {
            for (int i = 0; i < n; i++) {
                x.move(3, 1 + i % 2);
            }
        });
    }

    private static void twelveAreKept(Due due) {
        Bound b = new Bound(due, "11", "(12 are kept; a block() that comes forgets all)");
        b.answers("11", States.one(4).then(again(11)), x -> x.has(6), 11);
        b.answers("12", States.one(4).then(again(12)), x -> x.has(6), 12);
        b.answers("13", States.one(4).then(again(13)), x -> x.has(6), 12);
        FallRows x = Bound.made(States.one(4).then(y -> y.move(3, 1)).then(again(11)));
        for (int left = 11; left >= 0; left--) {
            b.is("12, undone", x.undo(), left);
        }
        b.are("12, all undone", LayoutTest.row(x), "0 1 2 3");
        b.is("12, all undone", x.undo(), STATE);
        x = Bound.made(States.one(4).then(y -> y.move(3, 1)).then(again(12)));
        for (int left = 11; left >= 0; left--) {
            b.is("13, undone", x.undo(), left);
        }
        b.are("13, the oldest is not", LayoutTest.row(x), "0 3 1 2");
        b.is("13, the oldest is not", x.undo(), STATE);
        x = Bound.made(toAndFro(30));
        for (int left = 11; left >= 0; left--) {
            b.is("32, undone", x.undo(), left);
            b.is("32, each of these", x.about(3, 4), left % 2 == 1 ? 1 : 2);
        }
    }

    /** So many that change places once more, or back: 1 and 2. */
    private static Bound.Told again(int n) {
        return x -> {
            for (int i = 0; i < n; i++) {
                x.swap(1, 2);
            }
        };
    }

    private static void twelveOfTwoRoutines(Due due) {
        Bound b = new Bound(due, "11", "The latest move(), swap() or order() is undone (12 are kept");
        Bound.Told three = States.routines(2).then(States.blocks(0, 3)).then(States.blocks(1, 3));
        // By turns, ROUTINE 0 first: behind 4 of them all is as it was.
        FallRows x = Bound.made(three.then(y -> {
            for (int i = 0; i < 13; i++) {
                y.swap(i % 2 == 0 ? 1 : 4, i % 2 == 0 ? 2 : 5);
            }
        }));
        b.are("behind 13", LayoutTest.row(x), "0 2 1 3 4 5");
        String[] behind = {"0 1 2 3 4 5", "0 2 1 3 4 5", "0 2 1 3 5 4", "0 1 2 3 5 4"};
        for (int left = 11; left >= 0; left--) {
            b.is("undone", x.undo(), left);
            b.are("undone, " + left + " left", LayoutTest.row(x), behind[(left + 1) % 4]);
        }
        b.is("the oldest is not", x.undo(), STATE);
    }

    private static void blockForgetsAll(Due due) {
        Bound b = new Bound(due, "11", "a block() that comes forgets all");
        Bound.Told kept = States.routines(2).then(States.blocks(0, 9)).then(again(3));
        b.refuses("then there is none", kept.then(States.blocks(1, 1)), x -> x.undo(), STATE);
        b.answers("one that is BAD forgets none", kept.then(x -> x.block(1, 0)), x -> x.undo(), 2);
        b.answers("one that is FULL forgets none", kept.then(x -> x.block(0, 1)), x -> x.undo(), 2);
        b.answers("a routine() forgets none", kept.then(x -> x.routine()), x -> x.undo(), 2);
        b.are("the order stays", LayoutTest.row(Bound.made(kept.then(States.blocks(1, 1)))), "0 2 1 3 4 5 6 7 8 9");
    }

    private static void noneToUndo(Due due) {
        Bound b = new Bound(due, "11", "how many are left. STATE: there is none.");
        Bound.Told move = States.one(3).then(x -> x.move(2, 1));
        b.answers("the only one", move, x -> x.undo(), 0);
        b.refuses("none is left", move.then(x -> x.undo()), x -> x.undo(), STATE);
        b.refuses("there was none", States.one(3), x -> x.undo(), STATE);
        b.refuses("a move() that was BAD", States.one(3).then(x -> x.move(1, 3)), x -> x.undo(), STATE);
        b.refuses("a swap() that was BAD", States.one(3).then(x -> x.swap(1, 0)), x -> x.undo(), STATE);
        b.refuses("an order() that was BAD", States.one(3).then(x -> x.order(0, 4)), x -> x.undo(), STATE);
        b.answers("an order()", States.one(3).then(x -> x.order(0, 1)), x -> x.undo(), 0);
        b.answers("a swap()", States.one(3).then(x -> x.swap(1, 2)), x -> x.undo(), 0);
        FallRows x = Bound.made(move.then(y -> y.count(0, 0, 1)).then(y -> y.cold(1, true)).then(y -> y.set(0, 1)));
        b.is("only the order comes back", x.undo(), 0);
        b.is("COLD stays", x.about(1, 3), 1);
        b.is("APART stays", x.has(3), 1);
        b.are("the order", LayoutTest.row(x), "0 2 1");
    }

    private static void settings(Due due) {
        Bound b = new Bound(due, "12",
            "APART on or off (what = 0: on is 1, 0), ALIGN (1: on is that), k of COST (2): what it was. BAD.");
        b.answers("APART on", States::none, x -> x.set(0, 1), 0);
        b.answers("APART off", States::rich, x -> x.set(0, 0), 1);
        for (int on : new int[] {-1, 2, BELOW, ABOVE}) {
            b.refuses("APART " + on, States::none, x -> x.set(0, on), BAD);
            b.refuses("APART " + on + " on much", States::rich, x -> x.set(0, on), BAD);
        }
        for (int align : ALIGNS) {
            b.answers("ALIGN " + align, States::rich, x -> x.set(1, align), 4);
            b.answers("ALIGN " + align + " told", States::rich, x -> x.set(1, align) * 100 + x.has(4), 400 + align);
        }
        for (int on : new int[] {0, -1, 3, 5, 6, 7, 9, 12, 15, 17, 24, 32, 64, -16, BELOW, ABOVE}) {
            b.refuses("ALIGN " + on, States::rich, x -> x.set(1, on), BAD);
        }
        b.answers("k, 4 at first", States::none, x -> x.has(5), 4);
        for (int k = 0; k <= 8; k++) {
            int on = k;
            b.answers("k " + k, States::rich, x -> x.set(2, on) * 100 + x.has(5), 300 + k);
        }
        for (int on : new int[] {-1, 9, BELOW, ABOVE}) {
            b.refuses("k " + on, States::rich, x -> x.set(2, on), BAD);
        }
        for (int what : new int[] {-1, 3, BELOW, ABOVE}) {
            b.refuses("what " + what, States::rich, x -> x.set(what, 1), BAD);
            b.refuses("what " + what, States::rich, x -> x.set(what, 0), BAD);
        }
    }

    private static void rows(Due due) {
        Bound b = new Bound(due, "14", "BLOCK i of THE ROW; NONE.");
        b.answers("the first", States::rich, x -> x.row(0), 0);
        b.answers("the last", States::rich, x -> x.row(7), 4);
        b.answers("the last of 40", States::full, x -> x.row(39), 39);
        for (int i : new int[] {-1, 8, 40, BELOW, ABOVE}) {
            b.answers("row(" + i + ")", States::rich, x -> x.row(i), NONE);
        }
        b.answers("row(40) of 40", States::full, x -> x.row(40), NONE);
        b.answers("of ROUTINES without BLOCKS", States.routines(6), x -> x.row(0), NONE);
        b.changesNothing("row()", States::rich, x -> x.row(8));
    }

    private static void laidEnds(Due due) {
        Bound b = new Bound(due, "15",
            "3 how many of its JUMPS (TEST JUMPS, too) are LONG, 4 how many there are, 5 the TURN in which the "
                + "latest of these became LONG (0). BAD.");
        FallRows x = Bound.made(States.one(1));
        b.are("no JUMPS", LayoutTest.laid(x, 0), "0 2 1 0 0 0");
        x = Bound.made(sizes(1, 200, 1).then(States.end(0, TEST, 2, 2)));
        b.are("two of two", LayoutTest.laid(x, 0), "0 12 11 2 2 1");
        x = Bound.made(sizes(1, 124, 100, 1).then(States.end(0, TEST, 2, 3)));
        b.are("the latest of two TURNS", LayoutTest.laid(x, 0), "0 12 11 2 2 2");
        x = Bound.made(sizes(1, 200, 1).then(States.end(0, TEST, 0, 2)));
        b.are("one of two", LayoutTest.laid(x, 0), "0 8 7 1 2 1");
        x = Bound.made(sizes(200, 1).then(States.end(0, GO, 1)));
        b.are("no bytes", LayoutTest.laid(x, 0), "0 200 0 0 0 0");
        for (int block : new int[] {-1, 8, 40, BELOW, ABOVE}) {
            b.refuses("BLOCK " + block, States::rich, y -> y.laid(block, 0), BAD);
        }
        for (int what : new int[] {-1, 6, BELOW, ABOVE}) {
            b.refuses("what " + what, States::rich, y -> y.laid(7, what), BAD);
        }
        b.answers("the last BLOCK, the last question", States::rich, y -> y.laid(7, 5), 0);
        b.changesNothing("laid()", States::rich, y -> y.laid(2, 5));
    }

    private static void images(Due due) {
        Bound b = new Bound(due, "16", "Byte i of what is laid; NONE: none such.");
        Bound.Told three = sizes(3);
        b.answers("the first", three, x -> x.image(0), 0);
        b.answers("the last", three, x -> x.image(3), 195);
        for (int i : new int[] {-1, 4, 5, BELOW, ABOVE}) {
            b.answers("image(" + i + ")", three, x -> x.image(i), NONE);
        }
        b.answers("bytes that were there once", States.one(2).then(States.end(1, TABLE, 0, 0, 0, 0))
            .then(x -> x.image(0)).then(States.end(1, GO, 0)), x -> x.image(5), NONE);
        b.answers("a byte above 127", States.one(1).then(States.end(0, 1)), x -> x.image(1), 204);
        b.changesNothing("image()", States::rich, x -> x.image(0));
        b.changesNothing("image() beyond", States::rich, x -> x.image(ABOVE));
    }

    private static void fullestImage(Due due) {
        Bound b = new Bound(due, "16", "Byte i of what is laid; NONE: none such.");
        Bound.Told most = States.routines(5).then(x -> {
            for (int block = 0; block < 40; block++) {
                x.block(block / 8, 199);
                x.end(block, TABLE, block / 8 * 8, block, block, block);
            }
            x.set(1, 16);
        });
        b.answers("as many bytes as can be", most, x -> x.told(0), 39 * 224 + 220);
        b.answers("the last address", most, x -> x.image(8952) + 256 * x.image(8953), 39 * 224);
        b.answers("the last byte", most, x -> x.image(8955), 0);
        b.answers("no byte more", most, x -> x.image(8956), NONE);
        b.answers("runs", most, x -> x.differ(), NONE);
    }

    private static void laidAnew(Due due) {
        Bound b = new Bound(due, "2", "ENDS become bytes, by what is NEXT in THE ROW");
        b.laysAnew("block()", States::unlaid, x -> x.block(0, 9));
        b.laysAnew("end()", States::unlaid, x -> x.end(0, TABLE, 0, 2, 3, -1));
        b.laysAnew("cold()", States::unlaid, x -> x.cold(3, true));
        b.laysAnew("move()", States::unlaid, x -> x.move(2, 1));
        b.laysAnew("swap()", States::unlaid, x -> x.swap(2, 3));
        for (int how = 0; how <= 3; how++) {
            int sort = how;
            b.laysAnew("order(0, " + how + ")", States::unlaid, x -> x.order(0, sort));
        }
        b.laysAnew("undo()", States::unlaid, x -> x.undo());
        b.laysAnew("set(0, 0)", States::unlaid, x -> x.set(0, 0));
        b.laysAnew("set(1, 16)", States::unlaid, x -> x.set(1, 16));
        b.laysAnew("set(2, 0)", States::unlaid, x -> x.set(2, 0));
        b.laysAnew("learn()", States::unlaid, x -> x.learn());
    }

    private static void toldOfAll(Due due) {
        Bound b = new Bound(due, "17",
            "Of what is laid: 0 bytes, 1 bytes between BLOCKS (144), 2 SHORT ones, 3 LONG ones, 4 TURNS in "
                + "which some became LONG, 5 bytes of THE TABLE behind all. BAD.");
        b.are("nothing is laid", LayoutTest.told(new FallRows()), "0 0 0 0 0 0");
        b.are("the least", LayoutTest.told(Bound.made(States.one(1))), "2 0 0 0 0 0");
        FallRows x = Bound.made(sizes(3, 127, 1, 9).then(States.end(0, TEST, 2, 0)).then(States.end(2, GUARDED, 1, 3))
            .then(y -> y.set(1, 4)));
        // 0 .. 11 (3, TEST JUMP LONG 6, JUMP 2), gap 1, 12 .. 139 (127, BACK), 140 .. 145 (1, JUMP LONG 5), gap 2, 148 .. 157.
        b.are("all sorts", LayoutTest.told(x), "166 3 1 2 1 8");
        for (int what : new int[] {-1, 6, BELOW, ABOVE}) {
            b.refuses("what " + what, States::rich, y -> y.told(what), BAD);
        }
        b.changesNothing("told()", States::rich, y -> y.told(0));
    }

    public static void main(String[] args) {
        Due due = new Due();
        oneThatComesIsLast(due);
        coldOnesBehindAll(due);
        noneBehindTheLast(due);
        testWithBothNext(due);
        tableAtEachAddress(due);
        shortOn(due);
        shortBack(due);
        longBytes(due);
        aligned(due);
        tableBehindAll(due);
        turns(due);
        turnsOneByOne(due);
        shortAtFirst(due);
        noneGetsShortAgain(due);
        laidAnew(due);
        moves(due);
        movesRefused(due);
        swaps(due);
        twelveAreKept(due);
        twelveOfTwoRoutines(due);
        blockForgetsAll(due);
        noneToUndo(due);
        settings(due);
        rows(due);
        laidEnds(due);
        images(due);
        fullestImage(due);
        toldOfAll(due);
        due.finish();
    }
}

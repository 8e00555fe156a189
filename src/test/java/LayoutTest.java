/** Promises 8, 9, 11, 12, 14 to 17: move, swap, undo, set, row, laid, image, told. */
final class LayoutTest {
    private static final int BAD = FallRows.BAD, STATE = FallRows.STATE, NONE = FallRows.NONE;

    static String row(FallRows x) {
        StringBuilder all = new StringBuilder();
        for (int i = 0; i < x.has(1); i++) {
            all.append(i == 0 ? "" : " ").append(x.row(i));
        }
        return all.toString();
    }

    static String image(FallRows x, int from, int to) {
        StringBuilder all = new StringBuilder();
        for (int i = from; i < to; i++) {
            all.append(i == from ? "" : " ").append(x.image(i));
        }
        return all.toString();
    }

    static String laid(FallRows x, int block) {
        StringBuilder all = new StringBuilder();
        for (int what = 0; what <= 5; what++) {
            all.append(what == 0 ? "" : " ").append(x.laid(block, what));
        }
        return all.toString();
    }

    static String told(FallRows x) {
        StringBuilder all = new StringBuilder();
        for (int what = 0; what <= 5; what++) {
            all.append(what == 0 ? "" : " ").append(x.told(what));
        }
        return all.toString();
    }

    /** One ROUTINE of BLOCKS of these SIZES. */
    static FallRows of(int... sizes) {
        FallRows x = new FallRows();
        x.routine();
        for (int size : sizes) {
            x.block(0, size);
        }
        return x;
    }

    private static void promise8(Due due) {
        FallRows x = of(1, 1, 1, 1, 1);
        x.routine();
        x.block(1, 1);
        due.is("8: on", x.move(1, 3), 1);
        due.are("8: on", row(x), "0 2 3 1 4 5");
        due.is("8: to the end", x.move(2, 4), 1);
        due.are("8: to the end", row(x), "0 3 1 4 2 5");
        due.is("8: to the front", x.move(2, 1), 4);
        due.are("8: to the front", row(x), "0 2 3 1 4 5");
        due.is("8: to where it is", x.move(3, 2), 2);
        due.are("8: to where it is", row(x), "0 2 3 1 4 5");
        due.is("8: that counts, too", x.has(6), 4);
        due.is("8: the first BLOCK", x.move(0, 1), BAD);
        due.is("8: the first BLOCK of another one", x.move(5, 1), BAD);
        due.is("8: place 0", x.move(1, 0), BAD);
        due.is("8: place -1", x.move(1, -1), BAD);
        due.is("8: place 5", x.move(1, 5), BAD);
        due.is("8: BLOCK -1", x.move(-1, 1), BAD);
        due.is("8: BLOCK 6", x.move(6, 1), BAD);
        due.are("8: nothing changed", row(x), "0 2 3 1 4 5");
        due.is("8: nothing kept", x.has(6), 4);
    }

    private static void promise9(Due due) {
        FallRows x = of(1, 1, 1, 1);
        x.routine();
        x.block(1, 1);
        x.block(1, 1);
        due.is("9: two", x.swap(1, 3), 1);
        due.are("9: two", row(x), "0 3 2 1 4 5");
        due.is("9: two", x.swap(1, 2), 1);
        due.are("9: two", row(x), "0 3 1 2 4 5");
        due.is("9: place", x.about(1, 4), 2);
        due.is("9: place", x.about(2, 4), 3);
        due.is("9: the first one", x.swap(0, 1), BAD);
        due.is("9: with the first one", x.swap(1, 0), BAD);
        due.is("9: of two ROUTINES", x.swap(1, 5), BAD);
        due.is("9: BLOCK -1", x.swap(-1, 1), BAD);
        due.is("9: with BLOCK 6", x.swap(1, 6), BAD);
        due.are("9: nothing changed", row(x), "0 3 1 2 4 5");
        due.is("9: kept", x.has(6), 2);
        due.is("9: with itself", x.swap(1, 1), 1);
        due.are("9: with itself", row(x), "0 3 1 2 4 5");
    }

    private static void promise11(Due due) {
        FallRows x = of(1, 1, 1, 1);
        due.is("11: none", x.undo(), STATE);
        x.routine();
        due.is("11: none of a refused one", x.move(1, 0), BAD);
        due.is("11: none of a refused one", x.order(1, 1), BAD);
        due.is("11: none", x.undo(), STATE);
        x.move(1, 3);
        x.swap(1, 2);
        x.end(0, 2, 2, 0, 0, 0);
        x.count(0, 0, 5);
        x.order(0, 0);
        due.are("11: as they came", row(x), "0 1 2 3");
        due.is("11: of order()", x.undo(), 2);
        due.are("11: of order()", row(x), "0 1 3 2");
        due.is("11: of swap()", x.undo(), 1);
        due.are("11: of swap()", row(x), "0 2 3 1");
        due.is("11: of move()", x.undo(), 0);
        due.are("11: of move()", row(x), "0 1 2 3");
        due.is("11: no more", x.undo(), STATE);
        for (int i = 0; i < 13; i++) {
            x.move(3, 1 + i % 2);
        }
        due.is("11: 12 are kept", x.has(6), 12);
        for (int i = 11; i >= 0; i--) {
            due.is("11: of 12", x.undo(), i);
        }
        due.are("11: the oldest is forgotten", row(x), "0 3 1 2");
        due.is("11: no more", x.undo(), STATE);
        x.move(1, 1);
        due.is("11: a refused block() forgets nothing", x.block(0, 0), BAD);
        due.is("11: has(6)", x.has(6), 1);
        x.routine();
        x.end(1, 1, 0, 0, 0, 0);
        due.is("11: routine() and end() forget nothing", x.has(6), 1);
        x.block(1, 1);
        due.is("11: block() forgets all", x.has(6), 0);
        due.is("11: block() forgets all", x.undo(), STATE);
        due.are("11: and the order stays", row(x), "0 1 3 2 4");
        x.block(1, 1);
        x.block(1, 1);
        x.swap(1, 2);
        x.swap(5, 6);
        x.swap(1, 3);
        due.is("11: of two ROUTINES", x.undo(), 2);
        due.are("11: of two ROUTINES", row(x), "0 2 3 1 4 6 5");
        due.is("11: of two ROUTINES", x.undo(), 1);
        due.are("11: of two ROUTINES", row(x), "0 2 3 1 4 5 6");
        due.is("11: of two ROUTINES", x.undo(), 0);
        due.are("11: of two ROUTINES", row(x), "0 1 3 2 4 5 6");
    }

    private static void promise12(Due due) {
        FallRows x = of(1, 1);
        due.is("12: APART on", x.set(0, 1), 0);
        due.is("12: APART on", x.set(0, 1), 1);
        due.is("12: APART 2", x.set(0, 2), BAD);
        due.is("12: APART -1", x.set(0, -1), BAD);
        due.is("12: APART off", x.set(0, 0), 1);
        int before = 1;
        for (int align : new int[] {16, 8, 4, 2, 1}) {
            due.is("12: ALIGN " + align, x.set(1, align), before);
            before = align;
            due.is("12: has(4)", x.has(4), align);
        }
        for (int align : new int[] {0, -1, 3, 5, 6, 7, 9, 12, 15, 17, 32, -16, Integer.MIN_VALUE}) {
            due.is("12: ALIGN " + align, x.set(1, align), BAD);
        }
        due.is("12: k", x.set(2, 0), 4);
        due.is("12: k", x.set(2, 8), 0);
        due.is("12: k 9", x.set(2, 9), BAD);
        due.is("12: k -1", x.set(2, -1), BAD);
        due.is("12: has(5)", x.has(5), 8);
        due.is("12: what 3", x.set(3, 1), BAD);
        due.is("12: what -1", x.set(-1, 1), BAD);
        due.is("12: nothing changed", x.has(3) * 100 + x.has(4), 1);
    }

    private static void promise14(Due due) {
        FallRows x = of(1, 1, 1);
        x.routine();
        x.routine();
        x.block(2, 1);
        x.block(1, 1);
        x.block(2, 1);
        x.block(1, 1);
        due.are("14: by ROUTINES", row(x), "0 1 2 4 6 3 5");
        x.cold(6, true);
        x.cold(1, true);
        x.cold(2, true);
        x.cold(5, true);
        due.are("14: APART is off", row(x), "0 1 2 4 6 3 5");
        x.set(0, 1);
        due.are("14: APART", row(x), "0 4 3 1 2 6 5");
        x.swap(1, 2);
        due.are("14: APART, in their order", row(x), "0 4 3 2 1 6 5");
        x.cold(2, false);
        due.are("14: one is cold no more", row(x), "0 2 4 3 1 6 5");
        due.is("14: -1", x.row(-1), NONE);
        due.is("14: 7", x.row(7), NONE);
        due.is("14: least", x.row(Integer.MIN_VALUE), NONE);
    }

    private static void ends(Due due) {
        FallRows x = of(2, 1, 1);
        x.routine();
        x.block(1, 3);
        due.are("16: BACK", image(x, 0, 12), "0 0 195 1 195 2 195 3 3 3 195 -9");
        x.end(0, 1, 0, 0, 0, 0);
        due.are("16: TRAP", image(x, 0, 4), "0 0 204 1");
        x.end(0, 2, 1, 0, 0, 0);
        due.are("16: GO to NEXT", image(x, 0, 4), "0 0 1 195");
        x.end(0, 2, 2, 0, 0, 0);
        due.are("16: GO on", image(x, 0, 7), "0 0 235 2 1 195 2");
        due.are("15: GO on", laid(x, 0), "0 4 2 0 1 0");
        x.end(2, 2, 0, 0, 0, 0);
        due.are("16: GO behind", image(x, 6, 9), "2 235 247");
        x.end(2, 5, 0, 1, 0, 0);
        due.are("16: CALL", image(x, 6, 15), "2 232 2 0 0 0 235 242 3");
        due.are("15: CALL", laid(x, 2), "6 14 7 0 1 0");
        x.end(2, 5, 2, 0, 0, 0);
        due.are("16: CALL of what is ahead", image(x, 6, 15), "2 232 244 255 255 255 235 248 3");
        x.end(0, 5, 1, 1, 0, 0);
        due.are("16: CALL, its WAY NEXT", image(x, 0, 10), "0 0 232 10 0 0 0 1 195 2");
        due.are("15: CALL, its WAY NEXT", laid(x, 0), "0 7 5 0 0 0");
        x = of(2, 1, 1);
        x.end(0, 6, 1, 2, 0, 0);
        x.end(2, 6, 1, 0, 0, 0);
        due.are("16: GUARDED", image(x, 0, 25), "0 0 1 195 2 235 251 0 0 0 0 4 0 0 0 4 0 0 0 0 0 0 0 -9 -9");
        due.are("17: GUARDED", told(x), "23 0 1 0 0 16");
        due.are("15: GUARDED", laid(x, 0), "0 2 0 0 0 0");
    }

    private static void tests(Due due) {
        FallRows x = of(2, 1, 1);
        x.end(0, 3, 2, 1, 0, 0);
        due.are("16: TEST, WAY 1 is NEXT", image(x, 0, 6), "0 0 112 2 1 195");
        x.end(0, 3, 1, 2, 0, 0);
        due.are("16: TEST, WAY 0 is NEXT", image(x, 0, 6), "0 0 113 2 1 195");
        x.end(0, 3, 1, 1, 0, 0);
        due.are("16: TEST, both are", image(x, 0, 6), "0 0 112 0 1 195");
        x.end(0, 3, 2, 0, 0, 0);
        due.are("16: TEST, none is", image(x, 0, 8), "0 0 112 4 235 250 1 195");
        due.are("15: TEST, none is", laid(x, 0), "0 6 4 0 2 0");
        due.are("17: TEST, none is", told(x), "10 0 2 0 0 0");
    }

    private static void tables(Due due) {
        for (int size = 1; size <= 4; size++) {
            FallRows x = of(size, 1);
            x.end(0, 4, 1, 0, 1, -1);
            int words = size == 1 || size == 2 ? 4 : 8;
            String fill = size == 2 ? "" : size == 1 ? " 0" : size == 4 ? " 0 0" : " 0 0 0";
            int to = words + 12;
            due.are("16: TABLE", image(x, size, to + 2),
                "255 36" + fill + " " + to + " 0 0 0 0 0 0 0 " + to + " 0 0 0 1 195");
            due.are("15: TABLE", laid(x, 0), "0 " + to + " " + (to - size) + " 0 0 0");
        }
    }

    /** At the edge of what a SHORT one reaches, on and back. */
    private static void reach(Due due) {
        FallRows x = of(1, 126, 1);
        x.end(0, 2, 2, 0, 0, 0);
        due.are("15: 127 on", laid(x, 0), "0 3 2 0 1 0");
        due.are("16: 127 on", image(x, 0, 4), "0 235 127 1");
        x = of(1, 127, 1);
        x.end(0, 2, 2, 0, 0, 0);
        due.are("15: 128 on", laid(x, 0), "0 6 5 1 1 1");
        due.are("16: 128 on", image(x, 0, 7), "0 233 128 0 0 0 1");
        due.are("17: 128 on", told(x), "136 0 0 1 1 0");
        x = of(126, 1);
        x.end(0, 2, 0, 0, 0, 0);
        due.are("15: 128 back", laid(x, 0), "0 128 2 0 1 0");
        due.are("16: 128 back", image(x, 126, 129), "235 128 1");
        x = of(127, 1);
        x.end(0, 2, 0, 0, 0, 0);
        due.are("15: 129 back", laid(x, 0), "0 132 5 1 1 1");
        due.are("16: 129 back", image(x, 127, 133), "233 124 255 255 255 1");
        x = of(127, 1);
        x.end(0, 3, 0, 1, 0, 0);
        due.are("16: TEST, 129 back", image(x, 127, 134), "15 128 123 255 255 255 1");
        x.end(0, 3, 1, 0, 0, 0);
        due.are("16: TURNED, 129 back", image(x, 127, 134), "15 129 123 255 255 255 1");
        due.are("15: TURNED, 129 back", laid(x, 0), "0 133 6 1 1 1");
        x = of(1, 200);
        x.routine();
        x.block(1, 1);
        x.end(0, 5, 1, 1, 0, 0);
        due.are("17: a CALL is no JUMP", told(x), "209 0 0 0 0 0");
    }

    /** What becomes LONG in one TURN moves others out of reach, which become LONG in the next one. */
    private static void turns(Due due) {
        FallRows x = of(1, 100, 22, 150, 1, 1);
        x.end(0, 2, 3, 0, 0, 0);
        x.end(1, 2, 4, 0, 0, 0);
        x.end(2, 2, 2, 0, 0, 0);
        due.are("15: BLOCK 0", laid(x, 0), "0 6 5 1 1 2");
        due.are("15: BLOCK 1", laid(x, 1), "6 111 5 1 1 1");
        due.are("15: BLOCK 2", laid(x, 2), "111 135 2 0 1 0");
        due.are("17: TURNS", told(x), "290 0 1 2 2 0");
        x = of(20, 120, 10, 200, 1);
        x.end(0, 3, 3, 4, 0, 0);
        due.are("15: both LONG together", laid(x, 0), "0 31 11 2 2 1");
        due.are("16: both LONG together", image(x, 20, 32), "15 128 137 0 0 0 233 77 1 0 0 1");
        due.are("17: both LONG together", told(x), "366 0 0 2 1 0");
        x = of(1, 124, 100, 1);
        x.end(0, 3, 2, 3, 0, 0);
        due.are("15: one pushes the other", laid(x, 0), "0 12 11 2 2 2");
        due.are("17: one pushes the other", told(x), "240 0 0 2 2 0");
    }

    /** What was LONG in one layout is SHORT in another one; nothing is NEXT behind the last BLOCK. */
    private static void anew(Due due) {
        FallRows x = of(1, 127, 1, 1);
        x.end(0, 3, 2, 2, 0, 0);
        due.are("15: LONG", laid(x, 0), "0 12 11 2 2 1");
        due.is("17: LONG", x.told(3), 2);
        x.move(3, 1);
        x.move(2, 2);
        due.are("15: SHORT in another order", laid(x, 0), "0 5 4 0 2 0");
        due.are("16: SHORT in another order", image(x, 0, 9), "0 112 4 235 2 3 195 2 195");
        due.are("17: SHORT in another order", told(x), "137 0 2 0 0 0");
        x.undo();
        x.undo();
        due.are("15: LONG once more", laid(x, 0), "0 12 11 2 2 1");
        x = of(1, 1);
        x.end(1, 2, 0, 0, 0, 0);
        due.are("16: the last BLOCK, GO", image(x, 0, 6), "0 195 1 235 251 -9");
        x.end(1, 3, 0, 0, 0, 0);
        due.are("16: the last BLOCK, TEST", image(x, 0, 8), "0 195 1 112 251 235 249 -9");
        x.cold(1, true);
        x.set(0, 1);
        x.routine();
        x.block(1, 1);
        due.are("16: the last BLOCK, APART", image(x, 0, 10), "0 195 2 195 1 112 249 235 247 -9");
    }

    private static void fullest(Due due) {
        FallRows x = new FallRows();
        for (int b = 0; b < 40; b++) {
            if (b % 9 == 0) {
                x.routine();
            }
            x.block(b / 9, 200);
            x.end(b, b == 39 ? 6 : 4, b / 9 * 9, b, b, b);
        }
        x.set(1, 16);
        due.are("17: the fullest row", told(x), "8949 156 0 1 1 8");
        due.are("16: the fullest row", image(x, 8940, 8950), "255 32 34 0 0 32 34 0 0 -9");
        due.is("25: the fullest row", x.differ(), NONE);
    }

    private static void aligned(Due due) {
        FallRows x = of(3, 1, 14);
        x.end(1, 6, 2, 0, 0, 0);
        x.set(1, 8);
        due.are("16: ALIGN 8", image(x, 0, 40),
            "0 0 0 195 144 144 144 144 1 144 144 144 144 144 144 144 2 2 2 2 2 2 2 2 2 2 2 2 2 2 195 "
                + "8 0 0 0 0 0 0 0 -9");
        due.are("17: ALIGN 8", told(x), "39 11 0 0 0 8");
        due.are("15: ALIGN 8", laid(x, 2), "16 31 1 0 0 0");
        x.set(1, 4);
        due.are("17: ALIGN 4", told(x), "31 3 0 0 0 8");
        x.set(1, 1);
        due.are("17: ALIGN 1", told(x), "28 0 0 0 0 8");
    }

    private static void promises15to17(Due due) {
        ends(due);
        tests(due);
        tables(due);
        reach(due);
        turns(due);
        aligned(due);
        anew(due);
        fullest(due);
        FallRows x = of(5);
        due.is("15: BLOCK 1", x.laid(1, 0), BAD);
        due.is("15: BLOCK -1", x.laid(-1, 0), BAD);
        due.is("15: what 6", x.laid(0, 6), BAD);
        due.is("15: what -1", x.laid(0, -1), BAD);
        due.is("16: -1", x.image(-1), NONE);
        due.is("16: 6", x.image(6), NONE);
        due.is("16: least", x.image(Integer.MIN_VALUE), NONE);
        due.is("16: greatest", x.image(Integer.MAX_VALUE), NONE);
        due.is("17: what 6", x.told(6), BAD);
        due.is("17: what -1", x.told(-1), BAD);
    }

    public static void main(String[] args) {
        Due due = new Due();
        promise8(due);
        promise9(due);
        promise11(due);
        promise12(due);
        promise14(due);
        promises15to17(due);
        due.finish();
    }
}

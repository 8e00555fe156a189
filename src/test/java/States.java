/** States of much of everything: what a refused call changes there is seen. */
final class States {
    private States() {
    }

    static void none(FallRows x) {
    }

    /** So many ROUTINES without BLOCKS. */
    static Bound.Told routines(int n) {
        return x -> {
            for (int i = 0; i < n; i++) {
                x.routine();
            }
        };
    }

    /** BLOCKS of one byte come to a ROUTINE. */
    static Bound.Told blocks(int routine, int n) {
        return x -> RoutinesTest.fill(x, routine, n);
    }

    /** One ROUTINE with so many BLOCKS of one byte. */
    static Bound.Told one(int n) {
        return routines(1).then(blocks(0, n));
    }

    static Bound.Told end(int block, int kind, int... ways) {
        return x -> x.end(block, kind, at(ways, 0), at(ways, 1), at(ways, 2), at(ways, 3));
    }

    private static int at(int[] ways, int i) {
        return i < ways.length ? ways[i] : -1;
    }

    /** Bytes come to THE TAPE, one and the same so many times. */
    static Bound.Told tape(int n, int value) {
        long eight = value * 0x0101010101010101L;
        return x -> {
            for (int left = n; left > 0; left -= 8) {
                x.say(eight, Math.min(8, left));
            }
        };
    }

    /** ROUTINE 0 has BLOCKS 0, 2, 3, 5, ROUTINE 1 has 1, 4, 6, ROUTINE 2 has 7, ROUTINE 3 none. Nothing was laid yet. */
    static void unlaid(FallRows x) {
        routines(4).on(x);
        int[] routines = {0, 1, 0, 0, 1, 0, 1, 2};
        int[] sizes = {20, 5, 130, 7, 66, 3, 9, 1};
        for (int b = 0; b < sizes.length; b++) {
            x.block(routines[b], sizes[b]);
        }
        x.end(0, 3, 2, 3, 0, 0);
        x.end(2, 4, 3, 5, 0, 2);
        x.end(3, 5, 5, 1, 0, 0);
        x.end(5, 6, 0, 2, 0, 0);
        x.end(1, 2, 6, 0, 0, 0);
        x.end(4, 1, 0, 0, 0, 0);
        x.end(7, 5, 7, 2, 0, 0);
        x.count(0, 0, 5);
        x.count(0, 1, 9);
        x.count(2, 1, 1000000);
        x.count(3, 0, 4);
        x.count(5, 0, 6);
        x.count(5, 1, 7);
        x.count(1, 0, 3);
        x.cold(5, true);
        x.cold(4, true);
        x.set(0, 1);
        x.set(1, 4);
        x.set(2, 3);
        x.say(0x01020304FF010003L, 8);
        x.say(0xFE05L, 2);
        x.move(5, 1);
        x.swap(4, 6);
        x.order(0, 3);
        x.run(0, 0);
    }

    static void rich(FallRows x) {
        unlaid(x);
        x.run(0, 1);
    }

    /** 6 ROUTINES (the last one without BLOCKS, the one ahead of it with 4), 40 BLOCKS, 200 bytes, 12 to undo. */
    static void full(FallRows x) {
        routines(6).on(x);
        for (int b = 0; b < 40; b++) {
            x.block(b / 9, 1 + b * 5);
        }
        for (int routine = 0; routine < 5; routine++) {
            int first = 9 * routine;
            x.end(first, 4, first + 1, first + 2, first + 3, first);
            x.end(first + 1, 3, first + 2, first, 0, 0);
            x.end(first + 2, 6, first + 3, first, 0, 0);
            x.end(first + 3, 2, first, 0, 0, 0);
        }
        for (int i = 0; i < 25; i++) {
            x.say(0x0102FF0304050607L * (i + 1), 8);
        }
        for (int i = 0; i < 12; i++) {
            x.move(1 + 9 * (i % 4), 2 + i % 7);
        }
        x.run(9, 0);
        x.run(18, 1);
    }
}

/** Every call with numbers from the edges of all that can be told, in states from empty to full: none throws. */
final class EdgesTest {
    private static final int[] EDGES = {Integer.MIN_VALUE, Integer.MIN_VALUE + 1, -1000001, -256, -10, -9, -3, -2, -1, 0, 1,
        2, 3, 4, 5, 6, 7, 8, 9, 10, 12, 14, 15, 16, 39, 40, 41, 127, 128, 199, 200, 201, 255, 256, 1000000, 1000001,
        Integer.MAX_VALUE - 1, Integer.MAX_VALUE};
    private static final int[] FEW = {Integer.MIN_VALUE, -1, 0, 1, 5, 40, Integer.MAX_VALUE};
    private static final int FRESH = 512;

    private final Due due;
    private final Bound.Told state;
    private FallRows x;
    private int calls;

    private EdgesTest(Due due, Bound.Told state) {
        this.due = due;
        this.state = state;
        calls = FRESH;
    }

    /** The object, or a new one in the state if this one has had its calls. */
    private FallRows next() {
        if (calls >= FRESH) {
            x = Bound.made(state);
            calls = 120;
        }
        calls++;
        return x;
    }

    private void fine(String call, int answer) {
        boolean refused = answer == FallRows.BAD || answer == FallRows.STATE || answer == FallRows.FULL;
        due.holds(call + " answered " + answer, answer >= 0 || refused || answer == FallRows.NONE);
    }

    private void one(int a) {
        fine("row(" + a + ")", next().row(a));
        fine("image(" + a + ")", next().image(a));
        fine("told(" + a + ")", next().told(a));
        fine("pages(" + a + ")", next().pages(a));
        fine("has(" + a + ")", next().has(a));
        fine("cold(" + a + ", true)", next().cold(a, true));
        fine("cold(" + a + ", false)", next().cold(a, false));
    }

    private void two(int a, int b) {
        String both = "(" + a + ", " + b + ")";
        fine("block" + both, next().block(a, b));
        fine("about" + both, next().about(a, b));
        fine("move" + both, next().move(a, b));
        fine("swap" + both, next().swap(a, b));
        fine("order" + both, next().order(a, b));
        fine("set" + both, next().set(a, b));
        fine("weight" + both, next().weight(a, b));
        fine("laid" + both, next().laid(a, b));
        fine("say" + both, next().say((long) a << 32 ^ b, b));
        fine("run" + both, next().run(a, b));
        fine("ran" + both, next().ran(a, b));
        fine("passed" + both, next().passed(a, b));
    }

    private void none() {
        fine("routine()", next().routine());
        fine("undo()", next().undo());
        fine("tear()", next().tear());
        fine("learn()", next().learn());
        fine("differ()", next().differ());
    }

    private void ends(int block) {
        for (int kind = -1; kind <= 7; kind++) {
            for (int a : FEW) {
                for (int b : FEW) {
                    String some = "end(" + block + ", " + kind + ", " + a + ", " + b + ", ";
                    fine(some + b + ", " + a + ")", next().end(block, kind, a, b, b, a));
                    fine(some + a + ", " + block + ")", next().end(block, kind, a, b, a, block));
                }
            }
            fine("told(0)", next().told(0));
            fine("differ()", next().differ());
        }
    }

    private void all() {
        for (int a : EDGES) {
            one(a);
            for (int b : EDGES) {
                two(a, b);
                for (int c : FEW) {
                    fine("count(" + a + ", " + b + ", " + c + ")", next().count(a, b, c));
                }
            }
            none();
            ends(a);
        }
    }

    public static void main(String[] args) {
        Due due = new Due();
        new EdgesTest(due, States::none).all();
        new EdgesTest(due, States.routines(6)).all();
        new EdgesTest(due, States.one(1)).all();
        new EdgesTest(due, States.one(9)).all();
        new EdgesTest(due, States::rich).all();
        new EdgesTest(due, States::full).all();
        due.finish();
    }
}

/** Long runs of mixed calls, the same on every day, each answer held against the model's. */
final class ModelTest {
    private static final int OBJECTS = 400, CALLS = 512;
    private long seed;
    private final Due due;
    private final FallRows rows = new FallRows();
    private final Model model = new Model();
    private final int sort;

    private ModelTest(Due due, int number) {
        this.due = due;
        seed = number * 7919L + 17;
        sort = number % 4;
    }

    private int below(int n) {
        seed = seed * 6364136223846793005L + 1442695040888963407L;
        return (int) ((seed >>> 33) % n);
    }

    /** Mostly one that is there, now and then one that is not. */
    private int some(int n) {
        int chance = below(40);
        return chance == 0 ? -1 : chance == 1 ? n : chance == 2 ? below(50) - 5 : n == 0 ? 0 : below(n);
    }

    private int someBlock() {
        return some(model.blocks.size());
    }

    private int someRoutine() {
        return some(model.orders.size());
    }

    /** A WAY that fits a BLOCK, mostly. */
    private int someWay(int block) {
        if (!model.is(block) || below(60) == 0) {
            return someBlock();
        }
        var own = model.own(model.blocks.get(block).routine);
        return own.get(below(own.size()));
    }

    private int someSize() {
        int chance = below(50);
        if (chance == 0) {
            return 0;
        }
        if (chance == 1) {
            return 201;
        }
        return sort == 0 ? 1 + below(12) : sort == 1 ? 1 + below(200) : 1 + below(60);
    }

    private int someCount() {
        int chance = below(20);
        return chance == 0 ? -1 : chance == 1 ? 1000001 : chance == 2 ? 1000000 : chance < 8 ? below(4) : below(1000);
    }

    private void same(String call, int got, int want) {
        due.is(call, got, want);
    }

    private void routines() {
        if (model.orders.size() < 1 + sort || below(10) == 0) {
            same("routine()", rows.routine(), model.routine());
        }
        int r = someRoutine(), size = someSize();
        same("block(" + r + ", " + size + ")", rows.block(r, size), model.block(r, size));
    }

    private void ends() {
        int b = someBlock();
        int kind = below(30) == 0 ? below(12) - 3 : below(9) == 0 ? below(2) : 2 + below(5);
        int a = someWay(b);
        int w = kind == 5 ? someRoutine() : kind == 4 && below(4) == 0 ? -1 : someWay(b);
        int c = below(3) == 0 ? -1 : someWay(b);
        int d = below(3) == 0 ? -1 : someWay(b);
        same("end(" + b + ", " + kind + ", " + a + ", " + w + ", " + c + ", " + d + ")",
            rows.end(b, kind, a, w, c, d), model.end(b, kind, a, w, c, d));
    }

    private void counts() {
        int b = someBlock(), way = below(12) == 0 ? below(8) - 2 : below(2), n = someCount();
        same("count(" + b + ", " + way + ", " + n + ")", rows.count(b, way, n), model.count(b, way, n));
    }

    private void layout() {
        int b = someBlock(), o = someWay(b), r = someRoutine(), place = some(9), how = some(4);
        boolean is = below(2) == 0;
        switch (below(6)) {
            case 0 -> same("cold(" + b + ", " + is + ")", rows.cold(b, is), model.cold(b, is));
            case 1 -> same("move(" + b + ", " + place + ")", rows.move(b, place), model.move(b, place));
            case 2 -> same("swap(" + b + ", " + o + ")", rows.swap(b, o), model.swap(b, o));
            case 3 -> same("order(" + r + ", " + how + ")", rows.order(r, how), model.order(r, how));
            case 4 -> same("undo()", rows.undo(), model.undo());
            default -> settings();
        }
    }

    private void settings() {
        int what = some(3), on = what == 0 ? some(2) : what == 1 ? 1 << below(6) : some(9);
        same("set(" + what + ", " + on + ")", rows.set(what, on), model.set(what, on));
    }

    private void questions() {
        int b = someBlock(), r = someRoutine(), what;
        switch (below(9)) {
            case 0 -> same("about(" + b + ", " + (what = some(15)) + ")", rows.about(b, what), model.about(b, what));
            case 1 -> same("weight(" + r + ", " + (what = some(4)) + ")", rows.weight(r, what), model.weight(r, what));
            case 2 -> same("row(" + b + ")", rows.row(b), model.row(b));
            case 3 -> same("laid(" + b + ", " + (what = some(6)) + ")", rows.laid(b, what), model.laid(b, what));
            case 4 -> same("image(" + (what = some(model.lay().bytes.size())) + ")", rows.image(what), model.image(what));
            case 5 -> same("told(" + (what = some(6)) + ")", rows.told(what), model.told(what));
            case 6 -> same("has(" + (what = some(7)) + ")", rows.has(what), model.has(what));
            case 7 -> same("pages(" + (what = some(9)) + ")", rows.pages(what), model.pages(what));
            default -> {
                int how = some(2), i = below(3) == 0 ? some(9) : some(200);
                same("ran(" + how + ", " + i + ")", rows.ran(how, i), model.ran(how, i));
                same("passed(" + how + ", " + i + ")", rows.passed(how, i), model.passed(how, i));
            }
        }
    }

    private void runs() {
        int b = someBlock(), how = some(2), n = below(20) == 0 ? below(3) * 9 : 1 + below(8);
        long bytes = (long) below(1 << 30) << 34 ^ (long) below(1 << 30) << 12 ^ below(1 << 20);
        if (below(3) == 0) {
            bytes |= 0xFF0000FFFFL << 8 * below(5);
        }
        switch (below(sort == 3 ? 9 : 7)) {
            case 0, 1 -> same("run(" + b + ", " + how + ")", rows.run(b, how), model.run(b, how));
            case 2 -> same("learn()", rows.learn(), model.learn());
            case 3 -> {
                if (below(4) == 0) {
                    same("tear()", rows.tear(), model.tear());
                }
            }
            case 4 -> {
                if (below(6) == 0) {
                    same("differ()", rows.differ(), model.differ());
                }
            }
            default -> same("say(" + bytes + ", " + n + ")", rows.say(bytes, n), model.say(bytes, n));
        }
    }

    /** All that can be asked of a state, so that a wrong one does not pass unseen. */
    private void everything() {
        Model.Laid all = model.lay();
        for (int i = -1; i <= all.bytes.size(); i++) {
            same("image(" + i + ")", rows.image(i), i >= 0 && i < all.bytes.size() ? all.bytes.get(i) : Model.NONE);
        }
        for (int b = -1; b <= model.blocks.size(); b++) {
            for (int what = -1; what <= 15; what++) {
                same("about(" + b + ", " + what + ")", rows.about(b, what), model.about(b, what));
            }
            for (int what = -1; what <= 6; what++) {
                same("laid(" + b + ", " + what + ")", rows.laid(b, what), model.laid(b, what));
            }
            same("row(" + b + ")", rows.row(b), model.row(b));
        }
        for (int how = -1; how <= 2; how++) {
            for (int what = -1; what <= 9; what++) {
                same("ran(" + how + ", " + what + ")", rows.ran(how, what), model.ran(how, what));
            }
            for (int i = -1; i <= 200; i++) {
                same("passed(" + how + ", " + i + ")", rows.passed(how, i), model.passed(how, i));
            }
        }
        for (int what = -1; what <= 9; what++) {
            same("told(" + what + ")", rows.told(what), model.told(what));
            same("has(" + what + ")", rows.has(what), model.has(what));
            same("pages(" + what + ")", rows.pages(what), model.pages(what));
        }
        for (int r = -1; r <= model.orders.size(); r++) {
            for (int what = -1; what <= 4; what++) {
                same("weight(" + r + ", " + what + ")", rows.weight(r, what), model.weight(r, what));
            }
        }
    }

    private void go() {
        int building = 30 + below(120);
        for (int i = 0; i < CALLS; i++) {
            int sortOfCall = below(i < building ? 14 : 11);
            switch (sortOfCall) {
                case 0 -> {
                    if (i < building || below(20) == 0) {
                        routines();
                    }
                }
                case 1, 2 -> {
                    if (i < 3 * building || below(10) == 0) {
                        ends();
                    }
                }
                case 3, 4 -> counts();
                case 5, 6 -> layout();
                case 7, 8 -> questions();
                case 9, 10 -> runs();
                default -> routines();
            }
        }
        everything();
    }

    public static void main(String[] args) {
        Due due = new Due();
        for (int number = 0; number < OBJECTS; number++) {
            new ModelTest(due, number).go();
        }
        due.finish();
    }
}

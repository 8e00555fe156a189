import java.util.ArrayList;
import java.util.List;

/** All that can be asked of a state, in parts of fewer than 400 calls; some change it, so each wants an object. */
final class Probes {
    private static final int ROUTINES = 6, IMAGE_PART = 300, ABOUT_PART = 20, RUNS_PART = 10, KEPT = 12;

    interface Part {
        String on(FallRows x);
    }

    private Probes() {
    }

    static List<Part> of(FallRows sample) {
        int blocks = sample.has(1);
        int bytes = sample.told(0);
        List<Part> parts = new ArrayList<>();
        parts.add(x -> settings(x));
        parts.add(x -> layout(x, blocks));
        parts.add(x -> learned(x, blocks));
        parts.add(x -> room(x));
        for (int how = 0; how <= 1; how++) {
            int sort = how;
            parts.add(x -> passed(x, sort));
        }
        for (int b = 0; b < blocks; b += ABOUT_PART) {
            int from = b;
            parts.add(x -> about(x, from, Math.min(blocks, from + ABOUT_PART)));
        }
        for (int i = 0; i <= bytes; i += IMAGE_PART) {
            int from = i;
            parts.add(x -> LayoutTest.image(x, from, from + IMAGE_PART));
        }
        for (int n = 0; n <= KEPT + 1; n++) {
            int undone = n;
            parts.add(x -> undone(x, undone));
        }
        for (int b = 0; b < blocks; b += RUNS_PART) {
            int from = b;
            parts.add(x -> runs(x, from, Math.min(blocks, from + RUNS_PART)));
        }
        return parts;
    }

    private static String settings(FallRows x) {
        StringBuilder all = new StringBuilder("has, ran, pages, weight:");
        for (int what = 0; what <= 6; what++) {
            all.append(' ').append(x.has(what));
        }
        all.append(';').append(RunsTest.ran(x, 0)).append(';').append(RunsTest.ran(x, 1)).append(';');
        for (int k = 0; k <= 8; k++) {
            all.append(' ').append(x.pages(k));
        }
        for (int i = 0; i < 4 * ROUTINES; i++) {
            all.append(' ').append(x.weight(i / 4, i % 4));
        }
        return all.toString();
    }

    private static String layout(FallRows x, int blocks) {
        StringBuilder all = new StringBuilder("row, told, laid: ");
        all.append(LayoutTest.row(x)).append(';').append(LayoutTest.told(x));
        for (int b = 0; b < blocks; b++) {
            all.append(';').append(LayoutTest.laid(x, b));
        }
        return all.toString();
    }

    /** Whether learn() is still held back shows in nothing but learn(). */
    private static String learned(FallRows x, int blocks) {
        StringBuilder all = new StringBuilder("learn:");
        all.append(' ').append(x.learn());
        for (int b = 0; b < blocks; b++) {
            for (int what = 10; what <= 13; what++) {
                all.append(' ').append(x.about(b, what));
            }
        }
        return all.toString();
    }

    /** How many more ROUTINES and BLOCKS come, and by which numbers. */
    private static String room(FallRows x) {
        StringBuilder all = new StringBuilder("routine, block:");
        for (int i = 0; i <= ROUTINES; i++) {
            all.append(' ').append(x.routine());
        }
        for (int i = 0; i < 10 * ROUTINES; i++) {
            all.append(' ').append(x.block(i / 10, 1));
        }
        return all.toString();
    }

    private static String passed(FallRows x, int how) {
        StringBuilder all = new StringBuilder("passed:");
        for (int i = 0; i <= 200; i++) {
            all.append(' ').append(x.passed(how, i));
        }
        return all.toString();
    }

    private static String about(FallRows x, int from, int to) {
        StringBuilder all = new StringBuilder("about:");
        for (int b = from; b < to; b++) {
            all.append(' ').append(RoutinesTest.about(x, b)).append(';');
        }
        return all.toString();
    }

    private static String undone(FallRows x, int times) {
        StringBuilder all = new StringBuilder("undo:");
        for (int i = 0; i < times; i++) {
            all.append(' ').append(x.undo());
        }
        return all.append(';').append(LayoutTest.row(x)).toString();
    }

    /** What THE TAPE holds shows in runs alone. */
    private static String runs(FallRows x, int from, int to) {
        StringBuilder all = new StringBuilder("run:");
        for (int b = from; b < to; b++) {
            for (int how = 0; how <= 1; how++) {
                all.append(' ').append(x.run(b, how)).append(';').append(RunsTest.ran(x, how));
                for (int i = 1; i <= 8; i++) {
                    all.append(' ').append(x.passed(how, i));
                }
            }
        }
        return all.toString();
    }
}

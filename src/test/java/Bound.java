import java.util.List;

/** One sentence of the document that names a boundary; what is asked of it is shown with its words. */
final class Bound {
    /** Calls that are made ahead of the one that is asked. */
    interface Told {
        void on(FallRows x);

        default Told then(Told more) {
            return x -> {
                on(x);
                more.on(x);
            };
        }
    }

    interface Asked {
        int on(FallRows x);
    }

    private final Due due;
    private final String words;

    Bound(Due due, String promise, String sentence) {
        this.due = due;
        words = promise + " '" + sentence + "': ";
    }

    static FallRows made(Told state) {
        FallRows x = new FallRows();
        state.on(x);
        return x;
    }

    void is(String call, long got, long want) {
        due.is(words + call, got, want);
    }

    void are(String call, String got, String want) {
        due.are(words + call, got, want);
    }

    /** The call on a new object, so that no other call of the test stands in its way. */
    void answers(String call, Told state, Asked asked, int want) {
        is(call, asked.on(made(state)), want);
    }

    /** The call answers so, and all that can be asked then is as if it had not been made. */
    void refuses(String call, Told state, Asked asked, int want) {
        answers(call, state, asked, want);
        changesNothing(call, state, asked);
    }

    /** Each part is asked of two new objects, of which one got the call: an object is good for 512 calls alone. */
    void changesNothing(String call, Told state, Asked asked) {
        List<Probes.Part> parts = Probes.of(made(state));
        for (Probes.Part part : parts) {
            FallRows with = made(state);
            asked.on(with);
            are(call + " changes nothing", part.on(with), part.on(made(state)));
        }
    }

    /** What is asked behind a change is the same, whether or not it was asked ahead of it, too. */
    void laysAnew(String call, Told state, Told change) {
        Told both = state.then(change);
        for (Probes.Part part : Probes.of(made(both))) {
            FallRows asked = made(state);
            asked.image(0);
            change.on(asked);
            are(call + " lays all anew", part.on(asked), part.on(made(both)));
        }
    }
}

import java.util.function.Supplier;

/** The bounds of one number of a call: answers at the last ones that are as told, refusals at the first that are not. */
final class Edge {
    interface Call {
        int with(QuarrelWalls x, int v);
    }

    private final Due due;
    private final Supplier<QuarrelWalls> made;

    /** Each call is made on an object of its own. */
    Edge(Due due, Supplier<QuarrelWalls> made) {
        this.due = due;
        this.made = made;
    }

    void answers(String what, Call call, int v, int want) {
        due.due(what + " " + v, call.with(made.get(), v), want);
    }

    /** What is refused changes nothing. */
    void refuses(String what, Call call, int v, int want) {
        QuarrelWalls x = made.get();
        due.due(what + " " + v, call.with(x, v), want);
        String left = Whole.of(x);
        String was = Whole.of(made.get());
        due.holds(what + " " + v + ": what is refused changes nothing\nwas\n" + was + "is\n" + left, left.equals(was));
    }

    /** As told from low to high, and BAD at either side of it. */
    void within(String what, Call call, int low, int high, int atLow, int atHigh) {
        answers(what, call, low, atLow);
        answers(what, call, high, atHigh);
        outside(what, call, low, high, -1);
    }

    void outside(String what, Call call, int low, int high, int want) {
        int[] wrong = {low - 1, high + 1, Integer.MIN_VALUE, Integer.MAX_VALUE};
        for (int v : wrong) {
            refuses(what, call, v, want);
        }
    }

    /** Asking changes nothing either. */
    void onlyAsks(String what, Call call, int v) {
        QuarrelWalls x = made.get();
        call.with(x, v);
        due.holds(what + " changes nothing", Whole.of(x).equals(Whole.of(made.get())));
    }
}

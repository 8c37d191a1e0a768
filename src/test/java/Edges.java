/** Calls at the edges, each on a scene of its own: the answer that is due, and what the call leaves as it was. */
final class Edges {
    static final int LEAST = Integer.MIN_VALUE;
    static final int MOST = Integer.MAX_VALUE;
    static final int[] NO_PLATES = {LEAST, -1, 6, MOST};
    static final int[] NO_LANES = {LEAST, -1, 3, MOST};
    /** On the open scene, which has three. */
    static final int[] NO_COMBS = {LEAST, -1, 3, MOST};
    static final int NULL = 1, INDEX = 2, SIZE = 3, CAST = 4, UNLIKE = 5;

    interface Call {
        long on(CombedLight x);
    }

    private final Due due;

    Edges(Due due) {
        this.due = due;
    }

    /** The call answers this and changes nothing at all. */
    void keeps(String name, long answer, Call call) {
        keeps(Scene.open(), name, answer, call);
    }

    void keeps(CombedLight x, String name, long answer, Call call) {
        hold(x, name, answer, 0, call);
    }

    /** The call has a CAUSE, and changes nothing but cause() and causes(). */
    void causes(String name, int cause, Call call) {
        causes(Scene.open(), name, cause, call);
    }

    void causes(CombedLight x, String name, int cause, Call call) {
        hold(x, name, -10 - cause, cause, call);
    }

    /** The call answers this, whatever it changes. */
    void takes(String name, long answer, Call call) {
        due.is(name, call.on(Scene.open()), answer);
    }

    private void hold(CombedLight x, String name, long answer, int cause, Call call) {
        long[] before = Scene.told(x);
        long[] causes = Scene.causes(x);
        due.is(name, call.on(x), answer);
        due.same(name + ": all else", Scene.told(x), before);
        if (cause != 0) {
            causes[0] = cause;
            causes[cause]++;
        }
        due.same(name + ": cause() and causes()", Scene.causes(x), causes);
    }
}

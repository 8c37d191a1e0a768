/** The boundary cases of promises 26 to 30, and of CAUSES and refusals: a test for each sentence. */
public final class ToldEdgesTest {
    private static final int LEAST = Edges.LEAST;
    private static final int MOST = Edges.MOST;
    private static final Due due = new Due();
    private static final Edges edges = new Edges(due);

    public static void main(String[] args) {
        constants();
        seenAtFirst();
        seenOfBandAndLook();
        causeAtFirst();
        causeIsTheLatest();
        refusalsAreNoCauses();
        causesOutside();
        causesOfEach();
        countOutside();
        countOfNone();
        countOfAll();
        digestOfNone();
        digestOrder();
        digestWraps();
        digestOfTheLeastAndGreatest();
        questionsChangeNothing();
        due.end();
    }

    private static void constants() {
        due.of("Terms: NONE, UNKNOWN, OUTSIDE, STATE, FULL");
        due.is("NONE", CombedLight.NONE, -1);
        due.is("UNKNOWN", CombedLight.UNKNOWN, -101);
        due.is("OUTSIDE", CombedLight.OUTSIDE, -102);
        due.is("STATE", CombedLight.STATE, -103);
        due.is("FULL", CombedLight.FULL, -104);
    }

    // ---- promise 26

    private static void seenAtFirst() {
        due.of("26: THE SEEN number (0 at first)");
        edges.keeps(new CombedLight(), "seen()", 0, CombedLight::seen);
        CombedLight x = new CombedLight();
        x.look(0, 0, 0);
        x.band(0, 0, 0, 0);
        due.is("after refused ones", x.seen(), 0);
    }

    private static void seenOfBandAndLook() {
        due.of("26: THE SEEN number, of look() and of band()");
        CombedLight x = Scene.open();
        due.is("of look()", x.seen(), 60);
        x.band(0, 0, 0, 0);
        due.is("of band()", x.seen(), 1);
        x.band(2, 0, 4, 0);
        due.is("a row of 0", x.seen(), 0);
        x.plate(5, 2, 1, 1);
        x.band(0, 5, 0, 1);
        due.is("NONE", x.seen(), CombedLight.NONE);
        x.put(5, 2, 0, 0, LEAST);
        due.is("a put is not seen", x.seen(), CombedLight.NONE);
        x.look(5, 0, 0);
        due.is("the least", x.seen(), LEAST);
        x.lose(5);
        due.is("it outlives the PLATE", x.seen(), LEAST);
    }

    // ---- promises 27 and 28

    private static void causeAtFirst() {
        due.of("27: 0 before any");
        edges.keeps(new CombedLight(), "cause()", 0, CombedLight::cause);
        for (int c = 1; c <= 5; c++) {
            int asked = c;
            edges.keeps(new CombedLight(), "causes(" + c + ")", 0, x -> x.causes(asked));
        }
    }

    private static final Edges.Call[] CAUSED = {
        x -> x.lose(5), x -> x.look(0, 5, 0), x -> x.plate(5, 0, -1, 1), x -> x.put(0, 0, 0, 0, 1), x -> x.less(3, 0)};

    private static void causeIsTheLatest() {
        due.of("27: the latest CAUSE; answered as -10 less them");
        for (int first = 1; first <= 5; first++) {
            for (int then = 1; then <= 5; then++) {
                CombedLight x = Scene.open();
                due.is("the first", CAUSED[first - 1].on(x), -10 - first);
                due.is("cause()", x.cause(), first);
                due.is("the second", CAUSED[then - 1].on(x), -10 - then);
                due.is("cause() then", x.cause(), then);
                due.is("look()", x.look(0, 0, 0), 1);
                due.is("cause() stays", x.cause(), then);
            }
        }
    }

    private static void refusalsAreNoCauses() {
        due.of("Terms: refusals, ahead of CAUSES, change no cause(), causes()");
        edges.keeps("UNKNOWN", CombedLight.UNKNOWN, x -> x.lose(6));
        edges.keeps("OUTSIDE", CombedLight.OUTSIDE, x -> x.bad(20, 0, true));
        edges.keeps("STATE", CombedLight.STATE, x -> x.law(2, 0, 1));
        edges.keeps(Scene.full(), "FULL", CombedLight.FULL, x -> x.comb(0, 0, 0));
    }

    private static void causesOutside() {
        due.of("28: a CAUSE (1 to 5); OUTSIDE");
        int[] none = {LEAST, -1, 0, 6, MOST};
        for (int c : none) {
            edges.keeps("causes(" + c + ")", CombedLight.OUTSIDE, x -> x.causes(c));
        }
    }

    private static void causesOfEach() {
        due.of("28: how often a CAUSE was answered");
        CombedLight x = Scene.open();
        for (int cause = 1; cause <= 5; cause++) {
            for (int i = 0; i < 2 * cause; i++) {
                CAUSED[cause - 1].on(x);
            }
        }
        // The scene itself has had one NULL.
        due.same("causes", Scene.causes(x), new long[] {5, 3, 4, 6, 8, 10});
        CombedLight y = new CombedLight();
        for (int i = 0; i < 500; i++) {
            y.lose(i % 6);
        }
        due.same("500 of one", Scene.causes(y), new long[] {1, 500, 0, 0, 0, 0});
    }

    // ---- promise 29

    private static void countOutside() {
        due.of("29: OUTSIDE");
        int[] none = {LEAST, -1, 6, MOST};
        for (int what : none) {
            edges.keeps("count(" + what + ")", CombedLight.OUTSIDE, x -> x.count(what));
        }
    }

    private static void countOfNone() {
        due.of("29: how many, of a new object");
        for (int what = 0; what <= 5; what++) {
            int asked = what;
            edges.keeps(new CombedLight(), "count(" + what + ")", 0, x -> x.count(asked));
        }
    }

    private static void countOfAll() {
        due.of("29: 0 PLATES that are not LOST, 1 COMBS, 2 LINES, 3 BAD CELLS, 4 LAWS, 5 match() done");
        long[] open = {5, 3, 11, 2, 2, 1};
        long[] full = {6, 4, 12, 3, 4, 2};
        for (int what = 0; what <= 5; what++) {
            int asked = what;
            edges.keeps("of the open scene, " + what, open[what], x -> x.count(asked));
            CombedLight x = Scene.full();
            x.plate(5, 0, 1, 1);
            x.bad(0, 0, true);
            x.draw(2, 0, 1, 0);
            x.law(2, 0, 1);
            x.law(3, 0, 1);
            x.match(0, 1, 0);
            edges.keeps(x, "of all there may be, " + what, full[what], y -> y.count(asked));
        }
    }

    // ---- promise 30

    private static void digestOfNone() {
        due.of("30: h is 113, of a new object");
        edges.keeps(new CombedLight(), "digest()", Scene.digestOf(-1, -1, -1, -1, -1, -1, 0, 0), CombedLight::digest);
    }

    private static void digestOrder() {
        due.of("30: for each of these numbers, in order");
        CombedLight x = new CombedLight();
        x.plate(0, 1, 2, 1);
        x.put(0, 1, 1, 0, -3);
        x.plate(5, 0, 1, 2);
        x.put(5, 0, 0, 1, 200);
        x.bad(19, 19, true);
        x.bad(0, 1, true);
        x.bad(19, 0, true);
        x.comb(1, 2, 3);
        x.comb(0, 0, 0);
        x.draw(1, 0, 0, 0);
        x.law(1, -5, 6);
        x.line(1);
        x.line(1000000);
        x.look(5, 0, 1);
        x.match(0, 1, 0);
        due.is("digest()", x.digest(), Scene.digestOf(
            1, 2, 1, 0, -3,
            -1, -1, -1, -1,
            0, 1, 2, 0, -56,
            19, 20, 399,
            1, 2, 3, 0, 0, 0, 0, 0,
            0, 0, 0, 2, 1, -5, 6, 0, 0, 0,
            1, 1000000,
            -56,
            1));
    }

    private static void digestWraps() {
        due.of("30: as longs, wrapping");
        for (int lines = 0; lines <= 12; lines++) {
            CombedLight x = new CombedLight();
            long[] told = new long[8 + lines];
            for (int i = 0; i < 6; i++) {
                told[i] = -1;
            }
            for (int i = 0; i < lines; i++) {
                told[6 + i] = 1000000 - 12 + i;
                x.line(1000000 - 12 + i);
            }
            due.is("of " + lines + " LINES", x.digest(), Scene.digestOf(told));
        }
    }

    private static void digestOfTheLeastAndGreatest() {
        due.of("30: 31 times h, and it, for the least and the greatest numbers");
        int[] counts = {LEAST, MOST, -1, 0, 1};
        for (int count : counts) {
            CombedLight x = new CombedLight();
            Due.fill(x, 0, count, count);
            x.look(0, 1, 0);
            due.is("of " + count, x.digest(), Scene.digestOf(2, 2, 1, count, count, -1, -1, -1, -1, -1, count, 0));
        }
        CombedLight y = new CombedLight();
        Due.stand(y, 0, MOST, MOST, MOST, MOST, MOST, MOST, MOST);
        y.comb(48, 304, 3);
        y.draw(0, 0, 0, 0);
        y.law(0, -1000000, 100000);
        due.is("of the greatest ROW", y.digest(), Scene.digestOf(
            2, 1, 7, MOST, MOST, MOST, MOST, MOST, MOST, MOST, -1, -1, -1, -1, -1,
            48, 304, 3, 1, 1, -1000000, 100000, 0, 700000, 0, 0));
    }

    private static void questionsChangeNothing() {
        due.of("26 to 30, and the questions of 10 to 25, change nothing");
        CombedLight x = Scene.open();
        edges.keeps("digest()", x.digest(), CombedLight::digest);
        edges.keeps("seen()", 60, CombedLight::seen);
        edges.keeps("cause()", 1, CombedLight::cause);
        edges.keeps("causes(1)", 1, y -> y.causes(1));
        edges.keeps("told(0, 5)", 7, y -> y.told(0, 5));
        edges.keeps("number(0, 3)", 60, y -> y.number(0, 3));
        edges.keeps("peaks(0, 41)", 1, y -> y.peaks(0, 41));
        edges.keeps("peak(0, 41, 0)", 194, y -> y.peak(0, 41, 0));
        edges.keeps("wave(0, 62)", 10, y -> y.wave(0, 62));
        edges.keeps("shift(0, 0, 1)", 2 * 40 + 40 + 60 + 180, y -> y.shift(0, 0, 1));
        edges.keeps("best(0, 0)", 0, y -> y.best(0, 0));
    }
}

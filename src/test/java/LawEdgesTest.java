/** The boundary cases of promises 15 to 21, and of PEAKS, LINES, LAWS and MATCHING: a test for each sentence. */
public final class LawEdgesTest {
    private static final int LEAST = Edges.LEAST;
    private static final int MOST = Edges.MOST;
    private static final long[] NO_LEVELS = {Long.MIN_VALUE, -1, 0};
    private static final int[] NO_ERRORS = {LEAST, -1, 10001, MOST};
    private static final Due due = new Due();
    private static final Edges edges = new Edges(due);

    public static void main(String[] args) {
        peaksNotAtTheEnds();
        peaksAboveOrLike();
        peaksOfALevel();
        peaksRefused();
        placeRounding();
        placeOfTheGreatest();
        peakOfNone();
        peakRefused();
        lineBounds();
        linesRise();
        linesFull();
        clearEdges();
        matchOfFewPeaks();
        matchOfFewLines();
        matchOfMany();
        matchWithinError();
        matchOfTheGreatestError();
        matchOfTwoAtLeast();
        matchBoundsOfB();
        matchBoundsOfA();
        matchOfLikeOnes();
        matchOfNoLaw();
        matchRefused();
        matchDone200Times();
        lawBounds();
        lawRefused();
        lawOfAnEmptyRow();
        waveBounds();
        waveRounding();
        waveRefused();
        due.end();
    }

    private static int[] of(int... numbers) {
        return numbers;
    }

    private static CombedLight drawn(int... numbers) {
        CombedLight x = new CombedLight();
        Due.row(x, numbers);
        return x;
    }

    // ---- promise 15

    private static void peaksAre(String name, int[] row, long t, int many) {
        due.is(name, drawn(row).peaks(0, t), many);
    }

    private static void peaksNotAtTheEnds() {
        due.of("Terms: PEAKS: columns x, not the first, not the last");
        edges.keeps("an empty ROW", 0, x -> x.peaks(2, 1));
        peaksAre("one column", of(9), 1, 0);
        peaksAre("two columns", of(1, 9), 1, 0);
        peaksAre("three columns", of(0, 9, 0), 1, 1);
        peaksAre("the first is the greatest", of(9, 1, 1), 1, 0);
        peaksAre("the last is the greatest", of(1, 1, 9), 1, 0);
        peaksAre("the second and the last but one", of(0, 9, 0, 9, 0), 1, 2);
        peaksAre("both ends and the middle", of(9, 0, 9, 0, 9), 1, 1);
    }

    private static void peaksAboveOrLike() {
        due.of("Terms: above both neighbours', or above the left one's and like the right one's");
        peaksAre("like the right one", of(0, 5, 5), 1, 1);
        peaksAre("like the left one", of(5, 5, 0), 1, 0);
        peaksAre("one above the left one", of(4, 5, 5), 1, 1);
        peaksAre("one below the right one", of(0, 5, 6), 1, 0);
        peaksAre("one above both", of(4, 5, 4), 1, 1);
        peaksAre("level", of(5, 5, 5, 5), 1, 0);
        peaksAre("three alike", of(0, 5, 5, 5, 0), 1, 1);
        peaksAre("two alike, then above", of(0, 5, 5, 9, 0), 1, 2);
        peaksAre("no light", of(0, 0, 0, 0), 1, 0);
    }

    private static void peaksOfALevel() {
        due.of("Terms: and is T at least");
        int[] row = {0, 1, 0, 5, 0, 100000, 0};
        peaksAre("1", row, 1, 3);
        peaksAre("2", row, 2, 2);
        peaksAre("5", row, 5, 2);
        peaksAre("6", row, 6, 1);
        peaksAre("100000", row, 100000, 1);
        peaksAre("100001", row, 100001, 0);
        peaksAre("beyond an int", row, (1L << 32) + 1, 0);
        peaksAre("the greatest", row, Long.MAX_VALUE, 0);
    }

    private static void peaksRefused() {
        due.of("15: UNKNOWN; OUTSIDE: t is below 1");
        for (int c : Edges.NO_COMBS) {
            edges.keeps("c " + c, CombedLight.UNKNOWN, x -> x.peaks(c, 1));
        }
        for (long t : NO_LEVELS) {
            edges.keeps("t " + t, CombedLight.OUTSIDE, x -> x.peaks(0, t));
            edges.keeps("t " + t + " of an empty ROW", CombedLight.OUTSIDE, x -> x.peaks(2, t));
        }
        edges.keeps("c and t", CombedLight.UNKNOWN, x -> x.peaks(3, 0));
        edges.keeps("t 1", 2, x -> x.peaks(0, 1));
        edges.keeps("t above all", 0, x -> x.peaks(0, Long.MAX_VALUE));
    }

    // ---- promise 16

    private static void placeIs(String name, int[] row, int place) {
        due.is(name, drawn(row).peak(0, 1, 0), place);
    }

    private static void placeRounding() {
        due.of("Terms: THE PLACE: 64 times (the right number less the left one) by the sum of all three, rounded down");
        placeIs("64 by 6", of(1, 3, 2), 74);
        placeIs("-64 by 6", of(2, 3, 1), 53);
        placeIs("0", of(7, 8, 7), 64);
        placeIs("-64 by 64", of(1, 63, 0), 63);
        placeIs("-64 by 65", of(1, 64, 0), 63);
        placeIs("128 by 128", of(0, 126, 2), 65);
        placeIs("64 by 65", of(0, 64, 1), 64);
        placeIs("the last but one of 20", of(0, 0, 0, 0, 0, 0, 0, 0, 0, 0, 0, 0, 0, 0, 0, 0, 0, 0, 1, 0), 64 * 18);
    }

    private static void placeOfTheGreatest() {
        due.of("Terms: THE PLACE of a PEAK beside an end");
        placeIs("half a column to the right", of(0, 100000, 100000), 96);
        placeIs("half a column to the left", of(99999, 100000, 0), 32);
        placeIs("a peak of 1", of(0, 1, 1), 96);
        CombedLight x = new CombedLight();
        x.plate(0, 2, 3, 7);
        x.plate(1, 2, 3, 7);
        x.comb(48, 48, 3);
        for (int i = 0; i < 21; i++) {
            x.put(0, 2, i % 3, i / 3, i % 3 == 0 ? 0 : MOST);
            x.put(1, 2, i % 3, i / 3, MOST);
        }
        x.draw(0, 0, 1, 0);
        due.is("700000", x.number(0, 1), 700000);
        due.is("its place", x.peak(0, 700000, 0), 96);
        due.is("none above it", x.peak(0, 700001, 0), CombedLight.NONE);
    }

    private static void peakOfNone() {
        due.of("16: THE PLACE of the k-th PEAK; NONE");
        edges.keeps("the first", 62, x -> x.peak(0, 1, 0));
        edges.keeps("the last", 194, x -> x.peak(0, 1, 1));
        int[] none = {LEAST, -1, 2, 20, MOST};
        for (int k : none) {
            edges.keeps("k " + k, CombedLight.NONE, x -> x.peak(0, 1, k));
        }
        edges.keeps("an empty ROW", CombedLight.NONE, x -> x.peak(2, 1, 0));
        edges.keeps("t leaves one, the first", 194, x -> x.peak(0, 41, 0));
        edges.keeps("t leaves one, a second", CombedLight.NONE, x -> x.peak(0, 41, 1));
        edges.keeps("t leaves none", CombedLight.NONE, x -> x.peak(0, 61, 0));
    }

    private static void peakRefused() {
        due.of("16: UNKNOWN; OUTSIDE");
        for (int c : Edges.NO_COMBS) {
            edges.keeps("c " + c, CombedLight.UNKNOWN, x -> x.peak(c, 1, 0));
        }
        for (long t : NO_LEVELS) {
            edges.keeps("t " + t, CombedLight.OUTSIDE, x -> x.peak(0, t, 0));
        }
        edges.keeps("c and t", CombedLight.UNKNOWN, x -> x.peak(3, 0, -1));
        edges.keeps("t and k", CombedLight.OUTSIDE, x -> x.peak(0, 0, -1));
    }

    // ---- promises 17 and 18

    private static void lineBounds() {
        due.of("17: OUTSIDE: it is not 1 to 1000000");
        int[] noLines = {LEAST, -1, 0, 1000001, MOST};
        for (int u : noLines) {
            edges.keeps("line " + u, CombedLight.OUTSIDE, x -> x.line(u));
            edges.keeps(new CombedLight(), "the first, " + u, CombedLight.OUTSIDE, x -> x.line(u));
        }
        due.is("1", new CombedLight().line(1), 1);
        due.is("1000000", new CombedLight().line(1000000), 1);
        edges.takes("1000000, the last", 12, x -> x.line(1000000));
    }

    private static void linesRise() {
        due.of("17: OUTSIDE: it is not above the last one");
        int[] noLines = {1, 109, 110};
        for (int u : noLines) {
            edges.keeps("line " + u, CombedLight.OUTSIDE, x -> x.line(u));
        }
        edges.takes("one above the last", 12, x -> x.line(111));
        CombedLight x = new CombedLight();
        x.line(1000000);
        edges.keeps(x, "none is above 1000000", CombedLight.OUTSIDE, y -> y.line(1000000));
    }

    private static void linesFull() {
        due.of("17: FULL; LINES (12 at most)");
        edges.takes("the twelfth", 12, x -> x.line(120));
        edges.keeps(Scene.full(), "a thirteenth", CombedLight.FULL, x -> x.line(121));
        edges.keeps(Scene.full(), "the greatest", CombedLight.FULL, x -> x.line(1000000));
        edges.keeps(Scene.full(), "OUTSIDE ahead of FULL, rising", CombedLight.OUTSIDE, x -> x.line(120));
        edges.keeps(Scene.full(), "OUTSIDE ahead of FULL, above", CombedLight.OUTSIDE, x -> x.line(1000001));
        edges.keeps(Scene.full(), "OUTSIDE ahead of FULL, below", CombedLight.OUTSIDE, x -> x.line(0));
    }

    private static void clearEdges() {
        due.of("18: LINES are gone: how many there were");
        edges.keeps(new CombedLight(), "none", 0, CombedLight::clear);
        CombedLight x = Scene.full();
        due.is("twelve", x.clear(), 12);
        due.is("count(2)", x.count(2), 0);
        due.is("LAWS stay", x.count(4), 2);
        edges.keeps(x, "none are left", 0, CombedLight::clear);
        for (int i = 1; i <= 12; i++) {
            due.is("line " + i, x.line(i), i);
        }
        edges.keeps(x, "FULL again", CombedLight.FULL, y -> y.line(13));
        due.is("twelve again", x.clear(), 12);
    }

    // ---- promise 19

    private static CombedLight lined(int[] row, int... lines) {
        CombedLight x = drawn(row);
        for (int u : lines) {
            x.line(u);
        }
        return x;
    }

    private static void matchIs(CombedLight x, String name, int e, int fits, int a, int b) {
        due.is(name + ", match", x.match(0, 1, e), fits);
        due.is(name + ", A", x.told(0, 5), a);
        due.is(name + ", B", x.told(0, 6), b);
        due.is(name + ", fitted", x.told(0, 7), fits);
    }

    private static void matchIsNone(CombedLight x, String name, int e) {
        due.is(name + ", match", x.match(0, 1, e), 0);
        due.is(name + ", no LAW", x.told(0, 4), 0);
        due.is(name + ", done", x.count(5), 1);
    }

    private static void matchOfFewPeaks() {
        due.of("Terms: MATCHING: of any two PEAKS");
        matchIsNone(lined(of(0, 0, 0, 0, 0), 100, 200), "no PEAK", 10000);
        matchIsNone(lined(of(0, 9, 0, 0, 0), 100, 200), "one PEAK", 10000);
        matchIs(lined(of(0, 9, 0, 9, 0), 100, 200), "two PEAKS", 0, 2, 50, 50);
        CombedLight x = Scene.open();
        due.is("an empty ROW", x.match(2, 1, 10000), 0);
        due.is("its LAW", x.told(2, 4), 0);
        due.is("t leaves one PEAK", x.match(0, 41, 10000), 0);
        due.is("t leaves two PEAKS", x.match(0, 40, 1), 2);
        due.is("t above an int", x.match(0, (1L << 32) + 1, 10000), 0);
        due.is("t the greatest", x.match(0, Long.MAX_VALUE, 10000), 0);
        CombedLight y = lined(of(0, 9, 0, 9, 0, 5, 0), 100, 200);
        due.is("three PEAKS", y.peaks(0, 5), 3);
        // With the third one's place B would be 25, and E 50 would let two PEAKS fit that LAW.
        due.is("t leaves out the third", y.match(0, 6, 50), 2);
        due.is("B of the other two", y.told(0, 6), 50);
    }

    private static void matchOfFewLines() {
        due.of("Terms: MATCHING: and two LINES");
        matchIsNone(lined(of(0, 9, 0, 9, 0)), "no LINE", 10000);
        matchIsNone(lined(of(0, 9, 0, 9, 0), 100), "one LINE", 10000);
        CombedLight x = lined(of(0, 9, 0, 9, 0), 100, 200);
        x.clear();
        matchIsNone(x, "LINES that are gone", 10000);
    }

    private static void matchOfMany() {
        due.of("19: nine PEAKS and twelve LINES, the most there are");
        CombedLight x = lined(of(0, 5, 0, 5, 0, 5, 0, 5, 0, 5, 0, 5, 0, 5, 0, 5, 0, 5, 0, 5),
            20, 40, 60, 80, 100, 120, 140, 160, 180, 1000, 2000, 3000);
        due.is("peaks", x.peaks(0, 1), 9);
        matchIs(x, "all nine", 0, 9, 10, 10);
    }

    private static void matchWithinError() {
        due.of("Terms: it FITS a PEAK, if some LINE is within E of its wave");
        int[] three = {0, 9, 0, 9, 0, 9, 0};
        // The first and the third PEAK on the outer LINES: B 52, the second PEAK's wave 204, 4 above 200.
        matchIs(lined(three, 100, 200, 308), "4 above, E 4", 4, 3, 48, 52);
        matchIs(lined(three, 100, 200, 308), "4 above, E 3", 3, 2, 75, 25);
        // Here B is 48 and that wave 196, 4 below 200.
        matchIs(lined(three, 100, 200, 292), "4 below, E 4", 4, 3, 52, 48);
        matchIs(lined(three, 100, 200, 292), "4 below, E 3", 3, 2, 177, 23);
        matchIs(lined(three, 100, 200, 300), "just on it, E 0", 0, 3, 50, 50);
    }

    private static void matchOfTheGreatestError() {
        due.of("Terms: E (0 to 10000)");
        int[] three = {0, 9, 0, 9, 0, 9, 0};
        matchIs(lined(three, 100000, 200000, 320000), "10000 off, E 10000", 10000, 3, 45000, 55000);
        matchIs(lined(three, 100000, 200000, 320000), "10000 off, E 9999", 9999, 2, 75000, 25000);
    }

    private static void matchOfTwoAtLeast() {
        due.of("Terms: the one that FITS most PEAKS (2 at least)");
        int[] between = {0, 3, 1, 0, 8, 2, 0};
        // Places 80 and 268, B 170, A 788: the second wave is 1499.
        matchIsNone(lined(between, 1000, 1500), "one alone", 0);
        matchIs(lined(between, 1000, 1500), "both", 1, 2, 788, 170);
    }

    private static void matchBoundsOfB() {
        due.of("Terms: B is 64 times (v less u) by (q less p), rounded down (only 1 to 100000)");
        int[] two = {0, 9, 0, 9, 0};
        matchIsNone(lined(two, 5, 6), "a half is 0", 10000);
        matchIs(lined(two, 5, 7), "1", 0, 2, 4, 1);
        matchIs(lined(two, 5, 8), "1 and a half is 1", 1, 2, 4, 1);
        matchIs(lined(two, 1, 200001), "100000", 0, 2, -99999, 100000);
        matchIs(lined(two, 1, 200002), "100000 and a half is 100000", 1, 2, -99999, 100000);
        matchIsNone(lined(two, 1, 200003), "100001", 10000);
        matchIsNone(lined(two, 1, 1000000), "499999", 10000);
    }

    private static void matchBoundsOfA() {
        due.of("Terms: A is u less B p by 64, rounded down (only within bounds)");
        int[] two = {0, 0, 0, 0, 0, 0, 0, 0, 0, 0, 0, 7, 0, 7, 0};
        matchIs(lined(two, 100000, 300000), "-1000000", 0, 2, -1000000, 100000);
        matchIsNone(lined(two, 99999, 299999), "-1000001", 10000);
        matchIs(lined(two, 100001, 300001), "-999999", 0, 2, -999999, 100000);
        matchIs(lined(of(0, 9, 0, 9, 0), 999998, 1000000), "the greatest there is", 0, 2, 999997, 1);
    }

    private static void matchOfLikeOnes() {
        due.of("Terms: of like ones that with the least B, then the least A");
        int[] two = {0, 9, 0, 9, 0};
        matchIs(lined(two, 100, 200, 300), "B 50, 50 and 100", 0, 2, 50, 50);
        matchIs(lined(two, 100, 300, 340, 360), "the least B with the greatest A", 0, 2, 330, 10);
        matchIs(lined(two, 10, 12, 20, 21), "laws that do not count are none", 0, 2, 9, 1);
    }

    private static void matchOfNoLaw() {
        due.of("19: 0: there is no such LAW (what there was stays)");
        long[][] laws = {{1, 7, 4, 2}, {1, 6, 7, 0}};
        for (int c = 0; c <= 1; c++) {
            CombedLight x = Scene.open();
            x.clear();
            long[] joined = {x.joined(0), x.joined(1), x.joined(6)};
            due.is("match", x.match(c, 1, 10000), 0);
            for (int what = 4; what <= 7; what++) {
                due.is("told(" + c + ", " + what + ")", x.told(c, what), laws[c][what - 4]);
            }
            due.is("count(4)", x.count(4), 2);
            due.is("it was done", x.count(5), 2);
            due.same("joined", new long[] {x.joined(0), x.joined(1), x.joined(6)}, joined);
        }
    }

    private static void matchRefused() {
        due.of("19: UNKNOWN; OUTSIDE: t, e");
        for (int c : Edges.NO_COMBS) {
            edges.keeps("c " + c, CombedLight.UNKNOWN, x -> x.match(c, 1, 0));
        }
        for (long t : NO_LEVELS) {
            edges.keeps("t " + t, CombedLight.OUTSIDE, x -> x.match(0, t, 0));
        }
        for (int e : NO_ERRORS) {
            edges.keeps("e " + e, CombedLight.OUTSIDE, x -> x.match(0, 1, e));
        }
        edges.keeps("c and t", CombedLight.UNKNOWN, x -> x.match(3, 0, 0));
        edges.keeps("c and e", CombedLight.UNKNOWN, x -> x.match(-1, 1, 10001));
        edges.takes("t 1, e 10000", 2, x -> x.match(0, 1, 10000));
    }

    private static void matchDone200Times() {
        due.of("19: FULL: it was done 200 times");
        CombedLight x = Scene.open();
        for (int done = 1; done < 199; done++) {
            x.match(0, done % 2 == 0 ? 1 : 61, 1);
        }
        due.is("a refused one", x.match(0, 0, 0), CombedLight.OUTSIDE);
        due.is("another", x.match(3, 1, 0), CombedLight.UNKNOWN);
        due.is("those are not done", x.count(5), 199);
        due.is("the 200th", x.match(0, 1, 1), 2);
        due.is("it was done", x.count(5), 200);
        x.law(0, 3, 4);
        edges.keeps(x, "the 201st", CombedLight.FULL, y -> y.match(0, 1, 1));
        due.is("the 202nd, which would find none", x.match(0, 61, 0), CombedLight.FULL);
        due.is("of an empty ROW", x.match(2, 1, 0), CombedLight.FULL);
        due.is("UNKNOWN ahead of FULL", x.match(3, 1, 0), CombedLight.UNKNOWN);
        due.is("OUTSIDE ahead of FULL, t", x.match(0, 0, 0), CombedLight.OUTSIDE);
        due.is("OUTSIDE ahead of FULL, e", x.match(0, 1, 10001), CombedLight.OUTSIDE);
        due.is("the LAW stays", x.told(0, 5), 3);
    }

    // ---- promise 20

    private static void lawBounds() {
        due.of("20: a LAW is told: 1; A -1000000 to 1000000, B 1 to 100000");
        int[][] laws = {{-1000000, 1}, {-1000000, 100000}, {1000000, 1}, {1000000, 100000}, {0, 1}};
        for (int[] law : laws) {
            CombedLight x = Scene.full();
            due.is("law", x.law(3, law[0], law[1]), 1);
            due.is("whether there is one", x.told(3, 4), 1);
            due.is("A", x.told(3, 5), law[0]);
            due.is("B", x.told(3, 6), law[1]);
            due.is("fitted", x.told(3, 7), 0);
            due.is("count(4)", x.count(4), 3);
        }
        CombedLight x = Scene.open();
        due.is("in place of one found", x.law(0, 1, 1), 1);
        due.is("it FITTED none", x.told(0, 7), 0);
        due.is("count(4)", x.count(4), 2);
    }

    private static void lawRefused() {
        due.of("20: UNKNOWN; OUTSIDE");
        for (int c : Edges.NO_COMBS) {
            edges.keeps("c " + c, CombedLight.UNKNOWN, x -> x.law(c, 0, 1));
        }
        int[] noA = {LEAST, -1000001, 1000001, MOST};
        for (int a : noA) {
            edges.keeps("A " + a, CombedLight.OUTSIDE, x -> x.law(0, a, 1));
        }
        int[] noB = {LEAST, -1, 0, 100001, MOST};
        for (int b : noB) {
            edges.keeps("B " + b, CombedLight.OUTSIDE, x -> x.law(0, 0, b));
        }
        edges.keeps("c and A", CombedLight.UNKNOWN, x -> x.law(3, 1000001, 1));
        edges.keeps("c and B", CombedLight.UNKNOWN, x -> x.law(-1, 0, 0));
    }

    private static void lawOfAnEmptyRow() {
        due.of("20: STATE: the ROW is empty");
        edges.keeps("of 0 columns", CombedLight.STATE, x -> x.law(2, 0, 1));
        edges.keeps("OUTSIDE ahead of STATE, A", CombedLight.OUTSIDE, x -> x.law(2, -1000001, 1));
        edges.keeps("OUTSIDE ahead of STATE, B", CombedLight.OUTSIDE, x -> x.law(2, 0, 100001));
        due.is("of 1 column", drawn(0).law(0, 0, 1), 1);
    }

    // ---- promise 21

    private static void waveBounds() {
        due.of("21: the wave of a place z (0 to 2000)");
        CombedLight x = drawn(1);
        x.law(0, -1000000, 1);
        due.is("the least", x.wave(0, 0), -1000000);
        due.is("z 2000", x.wave(0, 2000), -999969);
        x.law(0, 1000000, 100000);
        due.is("A alone", x.wave(0, 0), 1000000);
        due.is("the greatest", x.wave(0, 2000), 4125000);
        edges.keeps(x, "z 2000 changes nothing", 4125000, y -> y.wave(0, 2000));
    }

    private static void waveRounding() {
        due.of("Terms: A and B times z by 64, rounded down");
        CombedLight x = drawn(1);
        x.law(0, -1, 1);
        due.is("63 by 64", x.wave(0, 63), -1);
        due.is("64 by 64", x.wave(0, 64), 0);
        due.is("127 by 64", x.wave(0, 127), 0);
        due.is("128 by 64", x.wave(0, 128), 1);
        x.law(0, 0, 100000);
        due.is("100000 by 64", x.wave(0, 1), 1562);
    }

    private static void waveRefused() {
        due.of("21: UNKNOWN, -2000000000; OUTSIDE, -2000000001; STATE, -2000000002: there is no LAW");
        for (int c : Edges.NO_COMBS) {
            edges.keeps("c " + c, -2000000000, x -> x.wave(c, 0));
        }
        int[] noPlaces = {LEAST, -1, 2001, MOST};
        for (int z : noPlaces) {
            edges.keeps("z " + z, -2000000001, x -> x.wave(0, z));
            edges.keeps("z " + z + ", and c", -2000000000, x -> x.wave(3, z));
            edges.keeps("z " + z + ", and no LAW", -2000000001, x -> x.wave(2, z));
        }
        edges.keeps("an empty ROW", -2000000002, x -> x.wave(2, 0));
        edges.keeps(Scene.full(), "a ROW without a LAW", -2000000002, x -> x.wave(3, 2000));
    }
}

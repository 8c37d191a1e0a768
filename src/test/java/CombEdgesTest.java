/** The boundary cases of promises 9 to 14, and of COMBS, TRACING, ROWS, DRAWING and RAYS: a test for each sentence. */
public final class CombEdgesTest {
    private static final int LEAST = Edges.LEAST;
    private static final int MOST = Edges.MOST;
    private static final Due due = new Due();
    private static final Edges edges = new Edges(due);

    public static void main(String[] args) {
        combBounds();
        combOutside();
        combsFull();
        toldEdges();
        toldWithoutLaw();
        middleRounding();
        middleOfOneColumn();
        middleOfTwentyColumns();
        bandOnThePlate();
        bandOfNone();
        bandRefused();
        bandOrder();
        traceOfEndColumns();
        traceOfTheBand();
        traceRounding();
        traceOfBounds();
        traceWithoutBad();
        traceWithoutLight();
        traceOfOneColumn();
        traceRefused();
        drawOfBoundedLight();
        drawOfBoundedFlat();
        drawOfFlatAboveZero();
        drawOfNone();
        drawRounding();
        drawOfTheGreatest();
        drawOfTwentyColumns();
        rowsAreEmptyAtFirst();
        raysOfThreeRows();
        raysOfEachColumn();
        raysAboveKTimes();
        raysOfLikeOnes();
        raysOnce();
        drawDropsTheLaw();
        drawRefused();
        drawOrder();
        numberEdges();
        due.end();
    }

    // ---- promise 9

    private static void combBounds() {
        due.of("9: a COMB: its number; a, b 0 to 304, r 0 to 3");
        CombedLight x = new CombedLight();
        due.is("the least", x.comb(0, 0, 0), 0);
        due.is("the greatest", x.comb(304, 304, 3), 1);
        int[] facts = {0, 0, 0, 304, 304, 3};
        for (int i = 0; i < facts.length; i++) {
            due.is("told(" + i / 3 + ", " + i % 3 + ")", x.told(i / 3, i % 3), facts[i]);
        }
    }

    private static void combOutside() {
        due.of("9: OUTSIDE");
        int[] noMiddles = {LEAST, -1, 305, MOST};
        for (int middle : noMiddles) {
            edges.keeps("a " + middle, CombedLight.OUTSIDE, x -> x.comb(middle, 0, 0));
            edges.keeps("b " + middle, CombedLight.OUTSIDE, x -> x.comb(0, middle, 0));
        }
        int[] noHalves = {LEAST, -1, 4, MOST};
        for (int half : noHalves) {
            edges.keeps("r " + half, CombedLight.OUTSIDE, x -> x.comb(0, 0, half));
        }
    }

    private static void combsFull() {
        due.of("9: FULL; COMBS (4 at most, numbered)");
        edges.takes("the fourth", 3, x -> x.comb(1, 2, 3));
        edges.keeps(Scene.full(), "the fifth", CombedLight.FULL, x -> x.comb(1, 2, 3));
        edges.keeps(Scene.full(), "OUTSIDE ahead of FULL, a", CombedLight.OUTSIDE, x -> x.comb(305, 0, 0));
        edges.keeps(Scene.full(), "OUTSIDE ahead of FULL, b", CombedLight.OUTSIDE, x -> x.comb(0, -1, 0));
        edges.keeps(Scene.full(), "OUTSIDE ahead of FULL, r", CombedLight.OUTSIDE, x -> x.comb(0, 0, 4));
        edges.keeps(Scene.full(), "the fourth is known", 32, x -> x.told(3, 1));
        edges.keeps(Scene.full(), "a fifth is not", CombedLight.UNKNOWN, x -> x.told(4, 1));
    }

    // ---- promise 10

    private static void toldEdges() {
        due.of("10: what = 0 .. 7; UNKNOWN; OUTSIDE");
        for (int c : Edges.NO_COMBS) {
            edges.keeps("c " + c, CombedLight.UNKNOWN, x -> x.told(c, 0));
        }
        int[] noWhats = {LEAST, -1, 8, MOST};
        for (int what : noWhats) {
            edges.keeps("what " + what, CombedLight.OUTSIDE, x -> x.told(0, what));
        }
        edges.keeps("UNKNOWN ahead of OUTSIDE", CombedLight.UNKNOWN, x -> x.told(3, 8));
        edges.keeps(new CombedLight(), "of no COMBS", CombedLight.UNKNOWN, x -> x.told(0, 0));
        long[] found = {16, 16, 0, 5, 1, 7, 4, 2};
        long[] told = {16, 16, 1, 5, 1, 6, 7, 0};
        for (int what = 0; what <= 7; what++) {
            int asked = what;
            edges.keeps("of a LAW found, " + what, found[what], x -> x.told(0, asked));
            edges.keeps("of a LAW told, " + what, told[what], x -> x.told(1, asked));
        }
    }

    private static void toldWithoutLaw() {
        due.of("10: 5 to 7: 0 without a LAW");
        for (int what = 4; what <= 7; what++) {
            int asked = what;
            edges.keeps("of an empty ROW, " + what, 0, x -> x.told(2, asked));
            edges.keeps(Scene.full(), "of a ROW that was drawn, " + what, 0, x -> x.told(3, asked));
            CombedLight again = Scene.open();
            again.draw(0, 0, 1, 0);
            edges.keeps(again, "of a ROW drawn again, " + what, 0, x -> x.told(0, asked));
        }
    }

    // ---- promise 11

    private static void bandIs(CombedLight x, int c, int p, int column, int least, int greatest) {
        String name = "comb " + c + ", column " + column;
        due.is(name + ", side 0", x.band(c, p, column, 0), 1);
        due.is(name + ", its least row", x.seen(), least);
        due.is(name + ", side 1", x.band(c, p, column, 1), 1);
        due.is(name + ", its greatest row", x.seen(), greatest);
    }

    private static void middleRounding() {
        due.of("Terms: its MIDDLE, rounded down; m being the MIDDLE and 8 by 16, rounded down");
        CombedLight x = new CombedLight();
        x.plate(0, 0, 3, 20);
        x.comb(7, 7, 0);
        x.comb(8, 8, 0);
        x.comb(7, 8, 0);
        x.comb(8, 7, 0);
        bandIs(x, 0, 0, 0, 0, 0);
        bandIs(x, 1, 0, 0, 1, 1);
        // Seven and a half, rising and falling, is 7: half a row short of row 1.
        bandIs(x, 2, 0, 1, 0, 0);
        bandIs(x, 3, 0, 1, 0, 0);
        bandIs(x, 2, 0, 2, 1, 1);
        bandIs(x, 3, 0, 0, 1, 1);
        CombedLight y = new CombedLight();
        y.plate(0, 0, 3, 20);
        y.comb(23, 23, 0);
        y.comb(24, 24, 0);
        y.comb(295, 295, 0);
        y.comb(296, 296, 0);
        bandIs(y, 0, 0, 2, 1, 1);
        bandIs(y, 1, 0, 2, 2, 2);
        bandIs(y, 2, 0, 2, 18, 18);
        bandIs(y, 3, 0, 2, 19, 19);
    }

    private static void middleOfOneColumn() {
        due.of("Terms: its MIDDLE is a, if W is 1");
        CombedLight x = new CombedLight();
        x.plate(0, 0, 1, 20);
        x.plate(1, 0, 2, 20);
        x.comb(0, 304, 0);
        x.comb(304, 0, 0);
        bandIs(x, 0, 0, 0, 0, 0);
        bandIs(x, 1, 0, 0, 19, 19);
        bandIs(x, 0, 1, 0, 0, 0);
        bandIs(x, 0, 1, 1, 19, 19);
        bandIs(x, 1, 1, 1, 0, 0);
    }

    private static void middleOfTwentyColumns() {
        due.of("Terms: its MIDDLE: a and (b less a) times x by (W less 1)");
        CombedLight x = new CombedLight();
        x.plate(0, 0, 20, 20);
        x.comb(0, 304, 0);
        x.comb(304, 0, 0);
        for (int column = 0; column < 20; column++) {
            bandIs(x, 0, 0, column, column, column);
            bandIs(x, 1, 0, column, 19 - column, 19 - column);
        }
    }

    private static void bandOnThePlate() {
        due.of("Terms: rows from m less r to m and r that are on the PLATE");
        for (int r = 0; r <= 3; r++) {
            CombedLight x = new CombedLight();
            x.plate(0, 0, 1, 20);
            x.plate(1, 0, 1, 1);
            x.comb(160, 160, r);
            x.comb(0, 0, r);
            x.comb(304, 304, r);
            x.comb(16 * r, 0, r);
            bandIs(x, 0, 0, 0, 10 - r, 10 + r);
            bandIs(x, 1, 0, 0, 0, r);
            bandIs(x, 2, 0, 0, 19 - r, 19);
            bandIs(x, 3, 0, 0, 0, 2 * r);
            bandIs(x, 3, 1, 0, 0, 0);
        }
    }

    private static void bandOfNone() {
        due.of("11: NONE if it has none there: 1");
        for (int r = 0; r <= 3; r++) {
            CombedLight x = new CombedLight();
            x.plate(0, 0, 1, 19 - r);
            x.plate(1, 0, 1, 20 - r);
            x.comb(304, 0, r);
            bandIs(x, 0, 0, 0, CombedLight.NONE, CombedLight.NONE);
            bandIs(x, 0, 1, 0, 19 - r, 19 - r);
        }
    }

    private static void bandRefused() {
        due.of("11: UNKNOWN: c, p; OUTSIDE: side; NULL; INDEX: x");
        for (int c : Edges.NO_COMBS) {
            edges.keeps("c " + c, CombedLight.UNKNOWN, x -> x.band(c, 0, 0, 0));
        }
        for (int p : Edges.NO_PLATES) {
            edges.keeps("p " + p, CombedLight.UNKNOWN, x -> x.band(0, p, 0, 0));
        }
        int[] noSides = {LEAST, -1, 2, MOST};
        for (int side : noSides) {
            edges.keeps("side " + side, CombedLight.OUTSIDE, x -> x.band(0, 0, 0, side));
        }
        edges.causes("LOST", Edges.NULL, x -> x.band(0, 5, 0, 0));
        int[] noColumns = {LEAST, -1, 5, MOST};
        for (int column : noColumns) {
            edges.causes("x " + column, Edges.INDEX, x -> x.band(0, 0, column, 1));
        }
        edges.causes("x is a row alone", Edges.INDEX, x -> x.band(0, 4, 3, 1));
        edges.takes("the first column", 1, x -> x.band(0, 0, 0, 1));
        edges.takes("the last column", 1, x -> x.band(0, 0, 4, 1));
    }

    private static void bandOrder() {
        due.of("11: each refusal and CAUSE ahead of those told behind it");
        edges.keeps("c and side", CombedLight.UNKNOWN, x -> x.band(3, 0, 0, 2));
        edges.keeps("c and LOST", CombedLight.UNKNOWN, x -> x.band(-1, 5, 0, 0));
        edges.keeps("p and side", CombedLight.UNKNOWN, x -> x.band(0, 6, 0, 2));
        edges.keeps("side and LOST", CombedLight.OUTSIDE, x -> x.band(0, 5, 0, 2));
        edges.keeps("side and x", CombedLight.OUTSIDE, x -> x.band(0, 0, 5, -1));
        edges.causes("LOST and x", Edges.NULL, x -> x.band(0, 5, -1, 0));
    }

    // ---- promise 12

    /** A plate of two columns and as many rows as counts, with the counts in the given column. */
    private static CombedLight lit(int a, int b, int r, int column, int... counts) {
        CombedLight x = new CombedLight();
        x.plate(0, 2, 2, counts.length);
        for (int y = 0; y < counts.length; y++) {
            x.put(0, 2, column, y, counts[y]);
        }
        x.comb(a, b, r);
        return x;
    }

    private static void tracedTo(CombedLight x, String name, int a, int b) {
        due.is(name + ", trace(0, 0)", x.trace(0, 0), 1);
        due.is(name + ", a", x.told(0, 0), a);
        due.is(name + ", b", x.told(0, 1), b);
    }

    private static void traceOfEndColumns() {
        due.of("Terms: TRACING in column 0, and in the last one");
        CombedLight x = new CombedLight();
        x.plate(0, 2, 20, 20);
        for (int column = 1; column < 19; column++) {
            x.put(0, 2, column, 10, 50);
        }
        x.comb(160, 160, 3);
        tracedTo(x, "light between them alone", 160, 160);
        x.put(0, 2, 0, 9, 1);
        x.put(0, 2, 19, 12, 1);
        tracedTo(x, "light in both", 144, 192);
        CombedLight y = new CombedLight();
        y.plate(0, 2, 20, 20);
        y.put(0, 2, 0, 0, 1);
        y.put(0, 2, 19, 19, 1);
        y.comb(48, 256, 3);
        tracedTo(y, "the first and the last row", 0, 304);
    }

    private static void traceOfTheBand() {
        due.of("Terms: the middle of light in its BAND");
        for (int r = 0; r <= 3; r++) {
            int[] counts = new int[20];
            counts[10 - r - 1] = 100;
            counts[10 + r + 1] = 300;
            tracedTo(lit(160, 160, r, 0, counts), "beside a BAND of r " + r, 160, 160);
            counts[10 - r] = 1;
            tracedTo(lit(160, 160, r, 0, counts), "its least row, r " + r, 160 - 16 * r, 160);
            counts[10 - r] = 0;
            counts[10 + r] = 1;
            tracedTo(lit(160, 160, r, 1, counts), "its greatest row, r " + r, 160, 160 + 16 * r);
        }
    }

    private static void traceRounding() {
        due.of("Terms: the sum of COUNTS times (16 times their rows) by the sum of COUNTS, rounded down");
        tracedTo(lit(0, 0, 3, 0, 2, 1), "16 by 3", 5, 0);
        tracedTo(lit(0, 0, 3, 1, 1, 2), "32 by 3", 0, 10);
        tracedTo(lit(0, 0, 3, 1, 15, 1), "16 by 16", 0, 1);
        tracedTo(lit(0, 0, 3, 1, 16, 1), "16 by 17", 0, 0);
        tracedTo(lit(32, 32, 3, 0, 5), "row 0 alone", 0, 32);
    }

    private static void traceOfBounds() {
        due.of("Terms: in TRACING COUNTS below 0 count as 0, those above 100000 as 100000");
        tracedTo(lit(0, 0, 3, 0, -1, 2), "-1 is 0", 16, 0);
        tracedTo(lit(0, 0, 3, 1, LEAST, 2), "the least is 0", 0, 16);
        tracedTo(lit(0, 0, 3, 0, 100000, 99999), "100000 is itself", 7, 0);
        tracedTo(lit(0, 0, 3, 0, 100001, 100000), "100001 is 100000", 8, 0);
        tracedTo(lit(0, 0, 3, 1, MOST, 100000), "the most is 100000", 0, 8);
        tracedTo(lit(48, 48, 3, 1, MOST, MOST, MOST, MOST, MOST, MOST, MOST), "the most of all", 48, 48);
    }

    private static void traceWithoutBad() {
        due.of("Terms: BAD ones left out");
        CombedLight left = lit(0, 0, 3, 0, 9, 1);
        left.bad(0, 0, true);
        tracedTo(left, "in column 0", 16, 0);
        CombedLight right = lit(0, 0, 3, 1, 1, 9);
        right.bad(1, 1, true);
        tracedTo(right, "in the last column", 0, 0);
        CombedLight other = lit(0, 0, 3, 1, 1, 1);
        other.bad(0, 1, true);
        other.bad(1, 2, true);
        tracedTo(other, "other CELLS do not count", 0, 8);
    }

    private static void traceWithoutLight() {
        due.of("Terms: one without any light stays");
        tracedTo(lit(3, 5, 3, 0, 0, 0), "no light", 3, 5);
        tracedTo(lit(3, 5, 3, 0, -1, LEAST), "below 0", 3, 5);
        tracedTo(lit(304, 304, 3, 0, 9, 9, 9), "no BAND", 304, 304);
        tracedTo(lit(304, 0, 3, 1, 9, 0, 0), "no BAND at the left", 304, 0);
        CombedLight x = lit(3, 5, 1, 0, 9, 9);
        x.bad(0, 0, true);
        x.bad(0, 1, true);
        tracedTo(x, "BAD alone", 3, 5);
        x.put(0, 2, 1, 1, 1);
        tracedTo(x, "light at the right", 3, 16);
    }

    private static void traceOfOneColumn() {
        due.of("Terms: column 0 is the last one, too, if W is 1");
        CombedLight x = new CombedLight();
        Due.stand(x, 0, 0, 5, 50, 0);
        x.comb(0, 304, 1);
        tracedTo(x, "both by the BAND of the old a", 16, 16);
        tracedTo(x, "then by that of the new a", 30, 30);
    }

    private static void traceRefused() {
        due.of("12: UNKNOWN: c, p; NULL");
        for (int c : Edges.NO_COMBS) {
            edges.keeps("c " + c, CombedLight.UNKNOWN, x -> x.trace(c, 0));
        }
        for (int p : Edges.NO_PLATES) {
            edges.keeps("p " + p, CombedLight.UNKNOWN, x -> x.trace(0, p));
        }
        edges.causes("LOST", Edges.NULL, x -> x.trace(0, 5));
        edges.keeps("c and LOST", CombedLight.UNKNOWN, x -> x.trace(3, 5));
        edges.takes("comb 2, plate 4", 1, x -> x.trace(2, 4));
        edges.keeps("light of row 1 alone", 1, x -> x.trace(0, 0));
    }

    // ---- promise 13

    private static void drawnTo(String name, int[] light, int[] flat, int k, long number) {
        CombedLight x = new CombedLight();
        x.comb(48, 48, 3);
        drawnTo(x, name, light, flat, k, number);
    }

    private static void drawnTo(CombedLight x, String name, int[] light, int[] flat, int k, long number) {
        Due.stand(x, 0, light);
        Due.stand(x, 1, flat);
        due.is(name + ", draw", x.draw(0, 0, 1, k), 1);
        due.is(name + ", its number", x.number(0, 0), number);
    }

    private static int[] of(int... numbers) {
        return numbers;
    }

    private static void drawOfBoundedLight() {
        due.of("Terms: in DRAWING COUNTS (of s) below 0 count as 0, those above 100000 as 100000");
        drawnTo("99999", of(99999), of(1), 0, 99999);
        drawnTo("100000", of(100000), of(1), 0, 100000);
        drawnTo("100001", of(100001), of(1), 0, 100000);
        drawnTo("the most", of(MOST), of(1), 0, 100000);
        drawnTo("1", of(1), of(1), 0, 1);
        drawnTo("0", of(0), of(1), 0, 0);
        drawnTo("-1", of(-1), of(1), 0, 0);
        drawnTo("-1 beside 5", of(-1, 5), of(1, 1), 0, 5);
        drawnTo("the least beside 5", of(LEAST, 5), of(1, 1), 0, 5);
    }

    private static void drawOfBoundedFlat() {
        due.of("Terms: in DRAWING COUNTS (of f) above 100000 count as 100000");
        // With flats alike the number is the sum of light, 1; with the first one greater it is below 1.
        drawnTo("100000 and 99999", of(0, 1), of(100000, 99999), 0, 0);
        drawnTo("100001 and 100000", of(0, 1), of(100001, 100000), 0, 1);
        drawnTo("the most and 100000", of(0, 1), of(MOST, 100000), 0, 1);
    }

    private static void drawOfFlatAboveZero() {
        due.of("Terms: rows that are not BAD, whose f is above 0");
        drawnTo("f 1", of(5, 7), of(1, 1), 0, 12);
        drawnTo("f 0", of(5, 7), of(0, 1), 0, 7);
        drawnTo("f -1", of(5, 7), of(-1, 1), 0, 7);
        drawnTo("f the least", of(5, 7), of(LEAST, 1), 0, 7);
        CombedLight x = new CombedLight();
        x.comb(48, 48, 3);
        x.bad(0, 0, true);
        drawnTo(x, "BAD", of(5, 7), of(1, 1), 0, 7);
    }

    private static void drawOfNone() {
        due.of("Terms: 0 if there are none");
        drawnTo("f 0 and below", of(5, 7), of(0, -1), 0, 0);
        drawnTo("the same, told of RAYS", of(5, 7, 8), of(0, -1, 0), 1, 0);
        CombedLight x = new CombedLight();
        x.comb(0, 0, 1);
        x.bad(0, 0, true);
        x.bad(0, 1, true);
        drawnTo(x, "BAD ones alone", of(5, 7, 9), of(1, 1, 1), 0, 0);
        CombedLight y = new CombedLight();
        y.comb(304, 304, 3);
        drawnTo(y, "no BAND", of(5, 7, 9), of(1, 1, 1), 0, 0);
        drawnTo(y, "no BAND, told of RAYS", of(5, 7, 9), of(1, 1, 1), 100, 0);
    }

    private static void drawRounding() {
        due.of("Terms: the number is R times P by Q, rounded down");
        drawnTo("9 by 5", of(1, 1), of(1, 2), 0, 1);
        drawnTo("10 by 5", of(4, 2), of(0, 5), 0, 2);
        drawnTo("36 by 6", of(1, 2, 3), of(1, 1, 2), 0, 6);
        drawnTo("3 by 5", of(1, 0), of(1, 2), 0, 0);
    }

    private static void drawOfTheGreatest() {
        due.of("Terms: a ROW: of each column a number (0 to 700000)");
        int[] most = of(MOST, MOST, MOST, MOST, MOST, MOST, MOST, MOST);
        drawnTo("seven rows of the most", most, most, 0, 700000);
        drawnTo("told of RAYS", most, most, 1, 700000);
        drawnTo("no light", of(0, 0, 0, 0, 0, 0, 0, 0), most, 0, 0);
    }

    private static void drawOfTwentyColumns() {
        due.of("13: how many columns");
        CombedLight x = new CombedLight();
        x.plate(0, 2, 20, 20);
        x.comb(0, 304, 0);
        for (int column = 0; column < 20; column++) {
            x.put(0, 2, column, column, 1 + column);
        }
        due.is("draw of 20", x.draw(0, 0, 0, 0), 20);
        for (int column = 0; column < 20; column++) {
            due.is("number " + column, x.number(0, column), 1 + column);
        }
        x.plate(0, 2, 1, 1);
        due.is("draw of 1", x.draw(0, 0, 0, 0), 1);
        due.is("the second is gone", x.number(0, 1), -1);
        due.is("told(0, 3)", x.told(0, 3), 1);
    }

    private static void rowsAreEmptyAtFirst() {
        due.of("Terms: ROWS are empty (0 columns) at first");
        edges.keeps("told(2, 3)", 0, x -> x.told(2, 3));
        edges.keeps("number(2, 0)", -1, x -> x.number(2, 0));
        edges.keeps("peaks(2, 1)", 0, x -> x.peaks(2, 1));
    }

    private static void raysOfThreeRows() {
        due.of("Terms: RAYS: if there are three rows at least");
        // The first row is far above k times f S in all of these; left out, the number would be 0.
        drawnTo("two rows", of(100, 0), of(1, 100), 1, 1);
        drawnTo("three rows", of(100, 0, 0), of(1, 100, 1), 1, 0);
        drawnTo("one row", of(100), of(1), 1, 100);
        drawnTo("the third has no flat light", of(100, 0, 0), of(1, 100, 0), 1, 1);
        drawnTo("the third is below 0", of(100, 0, 0), of(1, 100, -1), 1, 1);
        CombedLight x = new CombedLight();
        x.comb(16, 16, 3);
        x.bad(0, 2, true);
        drawnTo(x, "the third is BAD", of(100, 0, 0), of(1, 100, 1), 1, 1);
        CombedLight y = new CombedLight();
        y.comb(0, 0, 1);
        drawnTo(y, "the third is beside the BAND", of(100, 0, 0), of(1, 100, 1), 1, 1);
    }

    private static void raysOfEachColumn() {
        due.of("Terms: DRAWING, in each column: its rows and sums are its own");
        CombedLight x = new CombedLight();
        x.comb(0, 0, 3);
        int[][] light = {{100, 0}, {100, 0}, {100, 0}};
        int[][] flat = {{1, 100}, {1, 100}, {1, 100}};
        columnsAre(x, "two rows in each", light, flat, 1, 1, 1);
        light = new int[][] {{9, 9, 9}, {5, 1, 1}, {4, 1, 1}};
        flat = new int[][] {{1, 1, 1}, {1, 1, 1}, {1, 1, 1}};
        columnsAre(x, "three rows in each", light, flat, 27, 2, 6);
    }

    /** Light and flat column by column, told of RAYS by k 1. */
    private static void columnsAre(CombedLight x, String name, int[][] light, int[][] flat, long... numbers) {
        x.plate(0, 2, light.length, light[0].length);
        x.plate(1, 2, light.length, light[0].length);
        for (int column = 0; column < light.length; column++) {
            for (int y = 0; y < light[0].length; y++) {
                x.put(0, 2, column, y, light[column][y]);
                x.put(1, 2, column, y, flat[column][y]);
            }
        }
        due.is(name + ", draw", x.draw(0, 0, 1, 1), light.length);
        for (int column = 0; column < numbers.length; column++) {
            due.is(name + ", number " + column, x.number(0, column), numbers[column]);
        }
    }

    private static void raysAboveKTimes() {
        due.of("Terms: RAYS, if told k (1 to 100): that is above k times f S");
        drawnTo("k 1, just like", of(4, 1, 1), of(1, 1, 1), 1, 6);
        drawnTo("k 1, above", of(5, 1, 1), of(1, 1, 1), 1, 2);
        drawnTo("k 0, no RAYS", of(5, 1, 1), of(1, 1, 1), 0, 7);
        // s P is 700 times 202, and f S 1400: just 101 times it, so just 100 times f S is left.
        drawnTo("k 100, just like", of(700, 700, 0), of(1, 101, 100), 100, 713);
        drawnTo("k 99, above", of(700, 700, 0), of(1, 101, 100), 99, 703);
        drawnTo("k 100, above", of(701, 700, 0), of(1, 101, 100), 100, 703);
        drawnTo("no light, 0 is not above 0", of(0, 0, 0), of(1, 2, 3), 1, 0);
        drawnTo("bounded light", of(MOST, 1, 0), of(1, 100, 100), 100, 1);
    }

    private static void raysOfLikeOnes() {
        due.of("Terms: RAYS: of like ones the least row");
        drawnTo("flats 1 and 2", of(4, 5, 1, 2, 2, 2, 2), of(1, 2, 3, 3, 3, 3, 3), 1, 12);
        drawnTo("flats 2 and 1", of(5, 4, 1, 2, 2, 2, 2), of(2, 1, 3, 3, 3, 3, 3), 1, 10);
    }

    private static void raysOnce() {
        due.of("Terms: RAYS: once");
        drawnTo("a second ray stays", of(0, 0, 0, 0, 0, 300, 301), of(1, 1, 1, 1, 1, 1, 1), 1, 300);
        drawnTo("three rows become two", of(9, 0, 0), of(1, 1, 1), 1, 0);
    }

    private static void drawDropsTheLaw() {
        due.of("13: the ROW has no LAW then");
        for (int c = 0; c <= 1; c++) {
            CombedLight x = Scene.open();
            due.is("two LAWS", x.count(4), 2);
            due.is("draw", x.draw(c, 0, 1, 0), 5);
            due.is("one LAW", x.count(4), 1);
            due.is("told(c, 4)", x.told(c, 4), 0);
            due.is("the other's stays", x.told(1 - c, 4), 1);
            due.is("wave(c, 0)", x.wave(c, 0), -2000000002);
        }
    }

    private static void drawRefused() {
        due.of("13: UNKNOWN: c, s, f; OUTSIDE: k is not 0 to 100; NULL: s, then f; UNLIKE");
        for (int c : Edges.NO_COMBS) {
            edges.keeps("c " + c, CombedLight.UNKNOWN, x -> x.draw(c, 0, 1, 0));
        }
        for (int p : Edges.NO_PLATES) {
            edges.keeps("s " + p, CombedLight.UNKNOWN, x -> x.draw(0, p, 1, 0));
            edges.keeps("f " + p, CombedLight.UNKNOWN, x -> x.draw(0, 0, p, 0));
        }
        int[] noRays = {LEAST, -1, 101, MOST};
        for (int k : noRays) {
            edges.keeps("k " + k, CombedLight.OUTSIDE, x -> x.draw(0, 0, 1, k));
        }
        edges.takes("k 0", 5, x -> x.draw(0, 0, 1, 0));
        edges.takes("k 100", 5, x -> x.draw(0, 0, 1, 100));
        edges.causes("s is LOST", Edges.NULL, x -> x.draw(0, 5, 1, 0));
        edges.causes("f is LOST", Edges.NULL, x -> x.draw(0, 0, 5, 0));
        edges.causes("both are LOST", Edges.NULL, x -> x.draw(0, 5, 5, 0));
        edges.causes("another W", Edges.UNLIKE, x -> x.draw(0, 0, 2, 0));
        edges.causes("another H", Edges.UNLIKE, x -> x.draw(0, 3, 0, 0));
        edges.causes("W and H turned", Edges.UNLIKE, x -> x.draw(2, 0, 4, 0));
    }

    private static void drawOrder() {
        due.of("13: each refusal and CAUSE ahead of those told behind it");
        edges.keeps("c and k", CombedLight.UNKNOWN, x -> x.draw(3, 0, 1, 101));
        edges.keeps("c and LOST", CombedLight.UNKNOWN, x -> x.draw(3, 5, 1, 0));
        edges.keeps("s and k", CombedLight.UNKNOWN, x -> x.draw(0, 6, 1, -1));
        edges.keeps("f and LOST s", CombedLight.UNKNOWN, x -> x.draw(0, 5, 6, 0));
        edges.keeps("k and LOST", CombedLight.OUTSIDE, x -> x.draw(0, 5, 5, 101));
        edges.keeps("k and UNLIKE", CombedLight.OUTSIDE, x -> x.draw(0, 0, 3, -1));
    }

    // ---- promise 14

    private static void numberEdges() {
        due.of("14: -1: there is none. UNKNOWN (as -101)");
        for (int c : Edges.NO_COMBS) {
            edges.keeps("c " + c, -101, x -> x.number(c, 0));
            edges.keeps("c " + c + ", no column", -101, x -> x.number(c, -1));
        }
        int[] noColumns = {LEAST, -1, 5, 20, MOST};
        for (int column : noColumns) {
            edges.keeps("x " + column, -1, x -> x.number(0, column));
            edges.keeps("x " + column + " of an empty ROW", -1, x -> x.number(2, column));
        }
        edges.keeps("the first column of an empty ROW", -1, x -> x.number(2, 0));
        edges.keeps("the first column", 2, x -> x.number(0, 0));
        edges.keeps("the last column", 3, x -> x.number(0, 4));
    }
}

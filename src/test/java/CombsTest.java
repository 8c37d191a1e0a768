/** Promises 9 to 14: comb, told, band, trace, draw, number. */
public final class CombsTest {
    private static final Due due = new Due();
    private static final int LEAST = Integer.MIN_VALUE;
    private static final int MOST = Integer.MAX_VALUE;

    public static void main(String[] args) {
        comb();
        told();
        band();
        trace();
        traceOfOneColumn();
        draw();
        drawRefused();
        rays();
        number();
        due.end();
    }

    private static void comb() {
        CombedLight x = new CombedLight();
        due.is("9: a below", x.comb(-1, 0, 0), CombedLight.OUTSIDE);
        due.is("9: a above", x.comb(305, 0, 0), CombedLight.OUTSIDE);
        due.is("9: b below", x.comb(0, -1, 0), CombedLight.OUTSIDE);
        due.is("9: b above", x.comb(0, 305, 0), CombedLight.OUTSIDE);
        due.is("9: r below", x.comb(0, 0, -1), CombedLight.OUTSIDE);
        due.is("9: r above", x.comb(0, 0, 4), CombedLight.OUTSIDE);
        due.is("9: count(1)", x.count(1), 0);
        due.is("9: first", x.comb(0, 304, 3), 0);
        due.is("9: second", x.comb(304, 0, 0), 1);
        due.is("9: third", x.comb(1, 2, 1), 2);
        due.is("9: fourth", x.comb(3, 4, 2), 3);
        due.is("9: outside ahead of full", x.comb(0, 0, 4), CombedLight.OUTSIDE);
        due.is("9: full", x.comb(0, 0, 0), CombedLight.FULL);
        due.is("9: count(1) then", x.count(1), 4);
        due.is("9: the fourth stays", x.told(3, 1), 4);
    }

    private static void told() {
        CombedLight x = new CombedLight();
        x.comb(7, 300, 2);
        int[] empty = {7, 300, 2, 0, 0, 0, 0, 0};
        tell(x, 0, empty);
        Due.redraw(x, 0, 0, 9, 0, 9, 0);
        int[] drawn = {7, 300, 2, 5, 0, 0, 0, 0};
        tell(x, 0, drawn);
        x.law(0, -12, 34);
        int[] lawTold = {7, 300, 2, 5, 1, -12, 34, 0};
        tell(x, 0, lawTold);
        Due.redraw(x, Due.row(x, 1), 1);
        int c = Due.row(x, 0, 9, 0, 9, 0);
        x.line(100);
        x.line(200);
        due.is("10: match", x.match(c, 1, 0), 2);
        int[] lawFound = {0, 0, 0, 5, 1, 50, 50, 2};
        tell(x, c, lawFound);
        x.law(c, 1, 2);
        int[] lawToldThen = {0, 0, 0, 5, 1, 1, 2, 0};
        tell(x, c, lawToldThen);
        x.match(c, 1, 0);
        Due.redraw(x, c, 0, 9, 0, 9);
        int[] drawnThen = {0, 0, 0, 4, 0, 0, 0, 0};
        tell(x, c, drawnThen);
        due.is("10: c below", x.told(-1, 9), CombedLight.UNKNOWN);
        due.is("10: c above", x.told(3, 9), CombedLight.UNKNOWN);
        due.is("10: what below", x.told(0, -1), CombedLight.OUTSIDE);
        due.is("10: what above", x.told(0, 8), CombedLight.OUTSIDE);
        due.is("10: what far", x.told(0, LEAST), CombedLight.OUTSIDE);
    }

    private static void tell(CombedLight x, int c, int[] facts) {
        for (int what = 0; what < facts.length; what++) {
            due.is("10: told(" + c + ", " + what + ")", x.told(c, what), facts[what]);
        }
    }

    private static void band() {
        CombedLight x = new CombedLight();
        x.plate(0, 2, 4, 20);
        x.comb(40, 20, 1);
        // Middles in 16ths are 40, 40 - 20/3, 40 - 40/3, 20; rounded down 40, 33, 26, 20: rows 3, 2, 2, 1.
        int[] rows = {3, 2, 2, 1};
        for (int column = 0; column < 4; column++) {
            bandIs(x, 0, column, rows[column] - 1, rows[column] + 1);
        }
        x.comb(23, 24, 0);
        // Middles 23, 23, 23, 24: only the last is half a row beyond row 1.
        bandIs(x, 1, 0, 1, 1);
        bandIs(x, 1, 2, 1, 1);
        bandIs(x, 1, 3, 2, 2);
        x.comb(24, 23, 0);
        // Middles 24, then rounded down at once to 23.
        bandIs(x, 2, 0, 2, 2);
        bandIs(x, 2, 1, 1, 1);
        x.comb(0, 304, 3);
        bandIs(x, 3, 0, 0, 3);
        bandIs(x, 3, 3, 16, 19);
        x.plate(0, 0, 1, 17);
        bandIs(x, 3, 0, 0, 3);
        x.plate(0, 0, 2, 16);
        bandIs(x, 3, 1, -1, -1);
        x.plate(0, 0, 2, 17);
        bandIs(x, 3, 1, 16, 16);
        bandRefused(x);
    }

    private static void bandIs(CombedLight x, int c, int column, int least, int greatest) {
        due.is("11: band, side 0", x.band(c, 0, column, 0), 1);
        due.is("11: least row", x.seen(), least);
        due.is("11: band, side 1", x.band(c, 0, column, 1), 1);
        due.is("11: greatest row", x.seen(), greatest);
    }

    private static void bandRefused(CombedLight x) {
        int seen = x.seen();
        due.is("11: c above", x.band(4, 1, 9, 2), CombedLight.UNKNOWN);
        due.is("11: c below", x.band(-1, 1, 9, 2), CombedLight.UNKNOWN);
        due.is("11: p above", x.band(0, 6, 9, 2), CombedLight.UNKNOWN);
        due.is("11: p below", x.band(0, -1, 9, 2), CombedLight.UNKNOWN);
        due.is("11: side above", x.band(0, 1, 9, 2), CombedLight.OUTSIDE);
        due.is("11: side below", x.band(0, 1, 9, -1), CombedLight.OUTSIDE);
        due.is("11: lost", x.band(0, 1, 9, 0), -11);
        due.is("11: x above", x.band(0, 0, 2, 0), -12);
        due.is("11: x below", x.band(0, 0, -1, 1), -12);
        due.is("11: x far", x.band(0, 0, MOST, 1), -12);
        due.is("11: seen() stays", x.seen(), seen);
        due.is("11: cause()", x.cause(), 2);
    }

    private static void trace() {
        CombedLight x = new CombedLight();
        x.plate(0, 2, 3, 5);
        x.comb(32, 32, 1);
        x.put(0, 2, 0, 0, 5000);
        x.put(0, 2, 0, 1, 1);
        x.put(0, 2, 0, 2, 2);
        x.put(0, 2, 0, 3, 4);
        x.put(0, 2, 0, 4, 5000);
        x.put(0, 2, 1, 2, 77);
        x.put(0, 2, 2, 1, 200000);
        x.put(0, 2, 2, 2, -300000);
        x.put(0, 2, 2, 3, 100000);
        due.is("12: trace(0, 0)", x.trace(0, 0), 1);
        due.is("12: a, 272 by 7", x.told(0, 0), 38);
        due.is("12: b, counts bounded", x.told(0, 1), 32);
        x.bad(0, 3, true);
        due.is("12: with a bad cell", x.trace(0, 0), 1);
        due.is("12: a, 80 by 3", x.told(0, 0), 26);
        x.put(0, 2, 0, 1, 0);
        x.put(0, 2, 0, 2, -1);
        x.put(0, 2, 2, 3, 0);
        due.is("12: no light at the left", x.trace(0, 0), 1);
        due.is("12: a stays", x.told(0, 0), 26);
        due.is("12: b moves", x.told(0, 1), 16);
        x.bad(2, 1, true);
        x.put(0, 2, 0, 2, 1);
        due.is("12: no light at the right", x.trace(0, 0), 1);
        due.is("12: a moves", x.told(0, 0), 32);
        due.is("12: b stays", x.told(0, 1), 16);
        due.is("12: c", x.trace(1, 1), CombedLight.UNKNOWN);
        due.is("12: c below", x.trace(-1, 1), CombedLight.UNKNOWN);
        due.is("12: p", x.trace(0, 6), CombedLight.UNKNOWN);
        due.is("12: p below", x.trace(0, -1), CombedLight.UNKNOWN);
        due.is("12: lost", x.trace(0, 1), -11);
        due.is("12: cause()", x.cause(), 1);
        keepsRowAndLaw(x);
    }

    private static void keepsRowAndLaw(CombedLight x) {
        int c = Due.row(x, 1, 2, 3);
        x.law(c, 5, 6);
        x.trace(c, 4);
        due.is("12: the row stays", x.told(c, 3), 3);
        due.is("12: its law stays", x.told(c, 4), 1);
    }

    private static void traceOfOneColumn() {
        CombedLight x = new CombedLight();
        Due.stand(x, 0, 0, 5, 50, 0);
        x.comb(0, 304, 1);
        due.is("12: one column", x.trace(0, 0), 1);
        due.is("12: one column, a", x.told(0, 0), 16);
        due.is("12: one column, b from a's old band", x.told(0, 1), 16);
    }

    private static void draw() {
        CombedLight x = new CombedLight();
        x.comb(16, 16, 1);
        columnIs(x, "three rows", new int[] {1, 2, 3}, new int[] {1, 1, 2}, 6);
        columnIs(x, "flat 0 is left out", new int[] {1000, 2, 3}, new int[] {0, 1, 2}, 4);
        columnIs(x, "flat below 0 is left out", new int[] {1000, 2, 3}, new int[] {-9, 1, 2}, 4);
        columnIs(x, "light below 0 is 0", new int[] {-50, 2, 3}, new int[] {1, 1, 2}, 5);
        columnIs(x, "no flat", new int[] {1, 2, 3}, new int[] {0, 0, -1}, 0);
        columnIs(x, "bounded", new int[] {MOST, MOST, MOST}, new int[] {MOST, 100000, 100001}, 300000);
        columnIs(x, "row 3 is no row of the band", new int[] {1, 2, 3, 900}, new int[] {1, 1, 2, 900}, 6);
        x.bad(0, 1, true);
        columnIs(x, "a bad cell", new int[] {1, 2000, 3}, new int[] {1, 1, 2}, 4);
        columnIs(x, "below the plate", new int[] {9}, new int[] {1}, 9);
        x.comb(304, 304, 3);
        Due.stand(x, 0, 9, 9);
        Due.stand(x, 1, 1, 1);
        due.is("13: no band at all", x.draw(1, 0, 1, 0), 1);
        due.is("13: its number", x.number(1, 0), 0);
        mostNumber();
        lawsAndLengths();
    }

    private static void columnIs(CombedLight x, String name, int[] light, int[] flat, long number) {
        Due.stand(x, 0, light);
        Due.stand(x, 1, flat);
        due.is("13: draw, " + name, x.draw(0, 0, 1, 0), 1);
        due.is("13: number, " + name, x.number(0, 0), number);
    }

    private static void mostNumber() {
        CombedLight x = new CombedLight();
        int c = x.comb(48, 48, 3);
        int[] most = {MOST, MOST, MOST, MOST, MOST, MOST, MOST};
        Due.stand(x, 0, most);
        due.is("13: light and flat may be one", x.draw(c, 0, 0, 0), 1);
        due.is("13: the greatest number", x.number(c, 0), 700000);
    }

    private static void lawsAndLengths() {
        CombedLight x = new CombedLight();
        int c = Due.row(x, 4, 5, 6, 7);
        x.law(c, 10, 20);
        due.is("13: draw again", x.draw(c, 4, 5, 0), 4);
        due.is("13: no law then", x.told(c, 4), 0);
        due.is("13: no A then", x.told(c, 5), 0);
        due.is("13: no B then", x.told(c, 6), 0);
        due.is("13: count(4)", x.count(4), 0);
        Due.redraw(x, c, 8, 9);
        due.is("13: a shorter row", x.told(c, 3), 2);
        due.is("13: what was behind it is gone", x.number(c, 2), -1);
        x.plate(0, 0, 2, 1);
        x.put(0, 0, 0, 0, 3);
        x.put(0, 0, 1, 0, 4);
        x.plate(1, 1, 2, 1);
        x.put(1, 1, 0, 0, 300);
        x.put(1, 1, 1, 0, 300);
        due.is("13: lanes may be others", x.draw(c, 0, 1, 0), 2);
        due.is("13: its first number", x.number(c, 0), 3);
        due.is("13: its second number", x.number(c, 1), 4);
        x.lose(0);
        due.is("13: the row outlives the plate", x.number(c, 1), 4);
    }

    private static void drawRefused() {
        CombedLight x = new CombedLight();
        int c = Due.row(x, 4, 5, 6);
        x.law(c, 1, 1);
        due.is("13: c above", x.draw(1, 0, 1, 101), CombedLight.UNKNOWN);
        due.is("13: c below", x.draw(-1, 0, 1, 101), CombedLight.UNKNOWN);
        due.is("13: s", x.draw(0, 6, 1, 101), CombedLight.UNKNOWN);
        due.is("13: f", x.draw(0, 1, -1, 101), CombedLight.UNKNOWN);
        due.is("13: k above", x.draw(0, 0, 1, 101), CombedLight.OUTSIDE);
        due.is("13: k below", x.draw(0, 0, 1, -1), CombedLight.OUTSIDE);
        due.is("13: both lost", x.draw(0, 0, 1, 0), -11);
        due.is("13: s lost", x.draw(0, 0, 4, 0), -11);
        due.is("13: f lost", x.draw(0, 4, 0, 0), -11);
        x.plate(0, 2, 3, 2);
        due.is("13: other h", x.draw(0, 0, 4, 0), -15);
        x.plate(0, 2, 2, 1);
        due.is("13: other w", x.draw(0, 4, 0, 0), -15);
        due.is("13: causes(1)", x.causes(1), 3);
        due.is("13: causes(5)", x.causes(5), 2);
        due.is("13: the row stays", x.number(c, 2), 6);
        due.is("13: its law stays", x.told(c, 4), 1);
    }

    private static void rays() {
        CombedLight x = new CombedLight();
        x.comb(48, 48, 3);
        int[] ones = {1, 1, 1, 1};
        rayIs(x, "just k times f S", new int[] {2, 1, 1, 0}, ones, 1, 4);
        rayIs(x, "above k times f S", new int[] {3, 1, 1, 0}, ones, 1, 2);
        rayIs(x, "no rays told", new int[] {3, 1, 1, 0}, ones, 0, 5);
        rayIs(x, "only once", new int[] {0, 0, 0, 0, 0, 300, 301}, new int[] {1, 1, 1, 1, 1, 1, 1}, 1, 300);
        rayIs(x, "three rows", new int[] {0, 10, 300}, new int[] {20, 50, 20}, 3, 12);
        rayIs(x, "three rows, not above 4 times", new int[] {0, 10, 300}, new int[] {20, 50, 20}, 4, 177);
        rayIs(x, "two rows", new int[] {10, 300}, new int[] {50, 20}, 1, 156);
        rayIs(x, "two rows with flat light", new int[] {7, 10, 300}, new int[] {0, 50, 20}, 1, 156);
        rayIs(x, "no light", new int[] {0, 0, 0}, new int[] {3, 4, 5}, 1, 0);
        // Rows of flat 1 and 2 are alike in s P less f S; which one is left out shows in the number.
        rayIs(x, "of like ones the least row", new int[] {4, 5, 1, 2, 2, 2, 2}, new int[] {1, 2, 3, 3, 3, 3, 3}, 1, 12);
        rayIs(x, "of like ones, turned", new int[] {5, 4, 1, 2, 2, 2, 2}, new int[] {2, 1, 3, 3, 3, 3, 3}, 1, 10);
        // The greatest alone is looked at: row 0 is not above k f S, though row 1 would be.
        rayIs(x, "the greatest alone", new int[] {60, 10, 0, 0}, new int[] {20, 1, 9, 10}, 2, 83);
        rayIs(x, "k is 100", new int[] {100000, 1, 0}, new int[] {1, 100, 100}, 100, 1);
        x.bad(0, 0, true);
        rayIs(x, "a bad row is none of three", new int[] {0, 10, 300}, new int[] {20, 50, 20}, 1, 156);
    }

    private static void rayIs(CombedLight x, String name, int[] light, int[] flat, int k, long number) {
        Due.stand(x, 0, light);
        Due.stand(x, 1, flat);
        due.is("13: rays, " + name, x.draw(0, 0, 1, k), 1);
        due.is("13: rays, number, " + name, x.number(0, 0), number);
    }

    private static void number() {
        CombedLight x = new CombedLight();
        due.is("14: no comb", x.number(0, 0), -101);
        x.comb(0, 0, 0);
        due.is("14: an empty row", x.number(0, 0), -1);
        Due.redraw(x, 0, 11, 0, 99999);
        due.is("14: first", x.number(0, 0), 11);
        due.is("14: a number of 0", x.number(0, 1), 0);
        due.is("14: last", x.number(0, 2), 99999);
        due.is("14: x below", x.number(0, -1), -1);
        due.is("14: x above", x.number(0, 3), -1);
        due.is("14: x far below", x.number(0, LEAST), -1);
        due.is("14: x far above", x.number(0, MOST), -1);
        due.is("14: c below", x.number(-1, 0), -101);
        due.is("14: c above", x.number(1, 0), -101);
    }
}

/** Promises 22 to 25: join, joined, shift, best. */
public final class JoinsTest {
    private static final Due due = new Due();
    private static final int LEAST = Integer.MIN_VALUE;
    private static final int MOST = Integer.MAX_VALUE;

    public static void main(String[] args) {
        join();
        joinOfNothing();
        joinOfFour();
        joinBounds();
        joined();
        shift();
        best();
        bestOfLikeOnes();
        bestBounds();
        due.end();
    }

    private static void join() {
        CombedLight x = new CombedLight();
        int c = Due.row(x, 10, 20, 30);
        int d = Due.row(x, 5, 7);
        Due.row(x, 900, 900, 900);
        x.law(c, 100, 10);
        x.law(d, 105, 10);
        due.is("22: join(95, 5, 7)", x.join(95, 5, 7), 5);
        // 100: 10; 105: 140 by 17; 110: 450 by 27; 115: 476 by 29, just the last column's; 120: 30 alone.
        long[] due22 = {0, 10, 8, 16, 16, 30, 0};
        for (int k = 0; k < due22.length; k++) {
            due.is("22: joined(" + k + ")", x.joined(k), due22[k]);
        }
        due.is("22: join(101, 1, 4)", x.join(101, 1, 4), 4);
        due.is("22: the column at or below", x.joined(0), 10);
        due.is("22: beside the last column", x.join(121, 3, 1), 0);
        due.is("22: nothing there", x.joined(0), 0);
    }

    private static void joinOfNothing() {
        CombedLight x = new CombedLight();
        int c = Due.row(x, 0, 0);
        x.law(c, 0, 1);
        due.is("22: numbers of 0 are numbers", x.join(-1, 1, 4), 2);
        due.is("22: and joined they are 0", x.joined(1), 0);
        int d = Due.row(x, 9);
        x.law(d, -500, 100000);
        due.is("22: one column, just its wave", x.join(-501, 1, 3), 1);
        due.is("22: its number", x.joined(1), 9);
        Due.redraw(x, c, 0, 0);
        Due.redraw(x, d, 0, 0);
        due.is("22: laws are gone", x.join(0, 1, 1), CombedLight.STATE);
    }

    private static void joinOfFour() {
        CombedLight x = new CombedLight();
        for (int i = 0; i < 4; i++) {
            x.law(Due.row(x, i, 100000), 10, 10);
        }
        due.is("22: four rows", x.join(10, 10, 2), 2);
        // Numbers 0 to 3 with weights 1 to 4: 20 by 10.
        due.is("22: of four small numbers", x.joined(0), 2);
        due.is("22: of four great numbers", x.joined(1), 100000);
        due.is("22: count(4)", x.count(4), 4);
    }

    private static void joinBounds() {
        CombedLight x = new CombedLight();
        due.is("22: outside ahead of state", x.join(0, 0, 1), CombedLight.OUTSIDE);
        due.is("22: no row", x.join(0, 1, 1), CombedLight.STATE);
        int c = Due.row(x, 3, 4, 5);
        due.is("22: no law", x.join(0, 1, 1), CombedLight.STATE);
        x.law(c, 1000000, 100000);
        due.is("22: g below", x.join(-1000001, 1, 1), CombedLight.OUTSIDE);
        due.is("22: g above", x.join(1000001, 1, 1), CombedLight.OUTSIDE);
        due.is("22: d below", x.join(0, 0, 1), CombedLight.OUTSIDE);
        due.is("22: d above", x.join(0, 100001, 1), CombedLight.OUTSIDE);
        due.is("22: n below", x.join(0, 1, 0), CombedLight.OUTSIDE);
        due.is("22: n above", x.join(0, 1, 61), CombedLight.OUTSIDE);
        due.is("22: n far", x.join(0, 1, LEAST), CombedLight.OUTSIDE);
        due.is("22: no join so far", x.joined(0), -1);
        due.is("22: g, d, n at their most", x.join(1000000, 100000, 60), 3);
        due.is("22: the last column", x.joined(2), 5);
        due.is("22: behind it", x.joined(3), 0);
        due.is("22: the 60th", x.joined(59), 0);
        due.is("22: g at its least", x.join(-1000000, 1, 60), 0);
        due.is("22: no cause", x.cause(), 0);
    }

    private static void joined() {
        CombedLight x = new CombedLight();
        int c = Due.row(x, 8, 9);
        x.law(c, 0, 1);
        due.is("23: none yet", x.joined(0), -1);
        x.join(0, 1, 3);
        due.is("23: first", x.joined(0), 8);
        due.is("23: second", x.joined(1), 9);
        due.is("23: third", x.joined(2), 0);
        due.is("23: fourth", x.joined(3), -1);
        due.is("23: below", x.joined(-1), -1);
        due.is("23: far below", x.joined(LEAST), -1);
        due.is("23: far above", x.joined(MOST), -1);
        x.join(0, 1, 0);
        due.is("23: a refused one changes nothing", x.joined(2), 0);
        Due.redraw(x, c, 1, 1);
        due.is("23: it stays while rows change", x.joined(0), 8);
        x.join(0, 1, 1);
        due.is("23: refused for want of a law", x.joined(2), 0);
        x.law(c, 0, 1);
        x.join(1, 1, 1);
        due.is("23: the latest alone", x.joined(0), 1);
        due.is("23: the latest is short", x.joined(1), -1);
    }

    private static void shift() {
        CombedLight x = new CombedLight();
        int c = Due.row(x, 1, 2, 3);
        int d = Due.row(x, 4, 5, 6);
        long[] sums = {0, 12, 23, 32, 17, 6, 0};
        for (int s = -3; s <= 3; s++) {
            due.is("24: shift by " + s, x.shift(c, d, s), sums[s + 3]);
        }
        due.is("24: turned", x.shift(d, c, 1), 23);
        due.is("24: with itself", x.shift(c, c, 0), 14);
        due.is("24: by 19", x.shift(c, d, 19), 0);
        due.is("24: by -19", x.shift(c, d, -19), 0);
        due.is("24: by 20", x.shift(c, d, 20), -102);
        due.is("24: by -20", x.shift(c, d, -20), -102);
        due.is("24: far", x.shift(c, d, MOST), -102);
        due.is("24: c", x.shift(2, d, 20), -101);
        due.is("24: c below", x.shift(-1, d, 20), -101);
        due.is("24: d", x.shift(c, 2, 20), -101);
        due.is("24: d below", x.shift(c, -1, 20), -101);
        due.is("24: an empty row", x.shift(c, x.comb(0, 0, 0), 0), 0);
        Due.redraw(x, c, 100000, 100000);
        due.is("24: great sums", x.shift(c, c, 0), 20000000000L);
        Due.redraw(x, d, 0, 0, 0, 0, 0, 0, 0, 0, 0, 0, 0, 0, 0, 0, 0, 0, 0, 0, 0, 2);
        due.is("24: by 19, the last column", x.shift(c, d, 19), 200000);
    }

    private static void best() {
        CombedLight x = new CombedLight();
        due.is("25: c", x.best(0, 0), -100);
        int c = Due.row(x, 0, 0, 7, 0, 0, 0);
        int d = Due.row(x, 0, 0, 0, 0, 9, 1);
        due.is("25: two to the right", x.best(c, d), 2);
        due.is("25: two to the left", x.best(d, c), -2);
        due.is("25: with itself", x.best(c, c), 0);
        int e = x.comb(0, 0, 0);
        due.is("25: first is empty", x.best(e, c), -101);
        due.is("25: second is empty", x.best(c, e), -101);
        due.is("25: unknown ahead of empty", x.best(e, 3), -100);
        due.is("25: c below", x.best(-1, e), -100);
        due.is("25: d below", x.best(c, -1), -100);
    }

    private static void bestOfLikeOnes() {
        CombedLight x = new CombedLight();
        int c = Due.row(x, 0, 0, 1, 0, 0);
        int d = Due.row(x, 0, 1, 0, 1, 0);
        due.is("25: -1 and 1", x.best(c, d), -1);
        Due.redraw(x, d, 1, 0, 0, 1, 0);
        due.is("25: -2 and 1", x.best(c, d), 1);
        Due.redraw(x, d, 1, 0, 1, 0, 1);
        due.is("25: -2, 0 and 2", x.best(c, d), 0);
        Due.redraw(x, d, 0, 0, 0, 0, 0);
        due.is("25: nothing at all", x.best(c, d), 0);
    }

    private static void bestBounds() {
        CombedLight x = new CombedLight();
        int c = Due.row(x, 1);
        int d = Due.row(x, 0, 0, 0, 0, 0, 0, 0, 0, 2);
        due.is("25: 8", x.best(c, d), 8);
        due.is("25: -8", x.best(d, c), -8);
        Due.redraw(x, d, 0, 0, 0, 0, 0, 0, 0, 0, 2, 99);
        due.is("25: 9 is beyond", x.best(c, d), 8);
        due.is("25: -9 is beyond", x.best(d, c), -8);
        Due.redraw(x, d, 0, 0, 0, 0, 0, 0, 0, 0, 0, 99);
        due.is("25: 9 alone", x.best(c, d), 0);
    }
}

/** Promises 26 to 30: seen, cause, causes, count, digest. */
public final class ToldTest {
    private static final Due due = new Due();

    public static void main(String[] args) {
        seen();
        cause();
        causes();
        count();
        digest();
        digestHangsOnAll();
        refusalsChangeNothing();
        due.end();
    }

    private static void seen() {
        CombedLight x = new CombedLight();
        due.is("26: at first", x.seen(), 0);
        x.plate(0, 2, 2, 2);
        x.put(0, 2, 1, 0, 55);
        due.is("26: putting is not seeing", x.seen(), 0);
        x.look(0, 1, 0);
        due.is("26: look", x.seen(), 55);
        x.look(0, 2, 0);
        x.look(1, 0, 0);
        due.is("26: what has a cause changes nothing", x.seen(), 55);
        x.comb(16, 16, 0);
        x.band(0, 0, 0, 0);
        due.is("26: band", x.seen(), 1);
        x.lose(0);
        due.is("26: it outlives the plate", x.seen(), 1);
    }

    private static void cause() {
        CombedLight x = new CombedLight();
        due.is("27: at first", x.cause(), 0);
        x.lose(6);
        x.plate(0, 0, 0, 0);
        due.is("27: a refusal is none", x.cause(), 0);
        x.lose(0);
        due.is("27: NULL", x.cause(), 1);
        x.plate(0, 0, -1, 1);
        due.is("27: SIZE", x.cause(), 3);
        x.plate(0, 0, 2, 2);
        due.is("27: it stays", x.cause(), 3);
        x.look(0, 2, 2);
        due.is("27: INDEX", x.cause(), 2);
        x.put(0, 1, 0, 0, 0);
        due.is("27: CAST", x.cause(), 4);
        x.plate(1, 0, 2, 1);
        x.less(0, 1);
        due.is("27: UNLIKE", x.cause(), 5);
        x.lose(6);
        due.is("27: the latest stays", x.cause(), 5);
    }

    private static void causes() {
        CombedLight x = new CombedLight();
        due.is("28: 0", x.causes(0), CombedLight.OUTSIDE);
        due.is("28: 6", x.causes(6), CombedLight.OUTSIDE);
        due.is("28: least", x.causes(Integer.MIN_VALUE), CombedLight.OUTSIDE);
        due.is("28: most", x.causes(Integer.MAX_VALUE), CombedLight.OUTSIDE);
        for (int c = 1; c <= 5; c++) {
            due.is("28: none of " + c, x.causes(c), 0);
        }
        x.comb(0, 0, 0);
        x.plate(0, 0, 2, 2);
        x.plate(1, 1, 3, 3);
        x.lose(5);
        x.band(0, 5, 0, 0);
        x.trace(0, 5);
        x.draw(0, 5, 0, 0);
        x.copy(0, 5);
        due.is("28: causes(1)", x.causes(1), 5);
        x.band(0, 0, 2, 0);
        x.look(0, 0, 2);
        x.put(0, 0, -1, 0, 0);
        due.is("28: causes(2)", x.causes(2), 3);
        x.plate(0, 0, -1, -1);
        due.is("28: causes(3)", x.causes(3), 1);
        x.put(0, 2, 0, 0, 0);
        x.copy(0, 1);
        due.is("28: causes(4)", x.causes(4), 2);
        x.less(0, 1);
        x.draw(0, 0, 1, 0);
        due.is("28: causes(5)", x.causes(5), 2);
        due.is("28: causes(1) still", x.causes(1), 5);
    }

    private static void count() {
        CombedLight x = new CombedLight();
        due.is("29: below", x.count(-1), CombedLight.OUTSIDE);
        due.is("29: above", x.count(6), CombedLight.OUTSIDE);
        due.is("29: far", x.count(Integer.MIN_VALUE), CombedLight.OUTSIDE);
        int c = Due.row(x, 0, 5, 0, 5, 0);
        int d = Due.row(x, 0, 5, 0, 5, 0);
        Due.row(x, 7);
        x.line(10);
        x.line(20);
        x.line(30);
        x.line(40);
        x.bad(3, 4, true);
        x.bad(0, 0, true);
        x.bad(4, 4, true);
        x.bad(4, 4, true);
        x.bad(5, 5, true);
        x.bad(3, 4, false);
        x.match(c, 1, 0);
        x.match(c, 9, 0);
        x.law(d, 0, 1);
        x.plate(0, 0, 1, 1);
        x.plate(0, 0, 1, 1);
        int[] held = {3, 3, 4, 3, 2, 2};
        for (int what = 0; what < held.length; what++) {
            due.is("29: count(" + what + ")", x.count(what), held[what]);
        }
        x.lose(0);
        Due.redraw(x, c, 1);
        due.is("29: a plate less", x.count(0), 2);
        due.is("29: a law less", x.count(4), 1);
        x.clear();
        due.is("29: no lines", x.count(2), 0);
    }

    private static void digest() {
        CombedLight x = new CombedLight();
        x.plate(1, 1, 2, 3);
        for (int i = 0; i < 6; i++) {
            x.put(1, 1, i % 2, i / 2, -3 * i);
        }
        x.bad(4, 2, true);
        x.bad(2, 4, true);
        x.bad(19, 19, true);
        x.bad(7, 0, true);
        int c = Due.row(x, 0, 6, 0, 6, 0);
        x.comb(11, 12, 3);
        x.line(50);
        x.line(70);
        x.match(c, 1, 0);
        x.match(c, 1, 0);
        x.look(1, 1, 2);
        long[] told = {
            -1,
            1, 2, 3, 0, -3, -6, -9, -12, -15,
            -1, -1,
            2, 5, 1, 0, 6, 0, 6, 0,
            2, 5, 1, 1, 1, 1, 1, 1,
            7, 44, 82, 399,
            0, 0, 0, 5, 1, 40, 10, 2, 0, 6, 0, 6, 0,
            11, 12, 3, 0, 0, 0, 0, 0,
            50, 70,
            -15,
            2};
        long h = 113;
        for (long number : told) {
            h = 31 * h + number;
        }
        due.is("30: digest()", x.digest(), h);
        due.is("30: digest() again", x.digest(), h);
    }

    private static void digestHangsOnAll() {
        CombedLight x = new CombedLight();
        int c = Due.row(x, 0, 6, 0);
        long[] met = new long[8];
        met[0] = x.digest();
        x.law(c, 1, 1);
        met[1] = x.digest();
        x.law(c, 2, 1);
        met[2] = x.digest();
        x.line(9);
        met[3] = x.digest();
        x.bad(1, 1, true);
        met[4] = x.digest();
        x.match(c, 1, 1);
        met[5] = x.digest();
        x.look(4, 1, 0);
        met[6] = x.digest();
        x.put(5, 2, 2, 0, 3);
        met[7] = x.digest();
        for (int i = 0; i < met.length; i++) {
            for (int j = 0; j < i; j++) {
                due.is("30: digests " + j + " and " + i + " are others", met[i] == met[j] ? 1 : 0, 0);
            }
        }
        x.join(0, 1, 5);
        due.is("30: what was joined is not in it", x.digest(), met[7]);
        x.lose(0);
        due.is("30: nor are causes", x.digest(), met[7]);
        CombedLight y = new CombedLight();
        y.plate(5, 2, 1, 1);
        y.bad(0, 0, true);
        y.look(5, 0, 0);
        long h = 113;
        for (long number : new long[] {-1, -1, -1, -1, -1, 2, 1, 1, 0, 0, 0, 0}) {
            h = 31 * h + number;
        }
        due.is("30: the cell (0, 0) is bad", y.digest(), h);
    }

    private static void refusalsChangeNothing() {
        CombedLight x = new CombedLight();
        int c = Due.row(x, 0, 6, 0, 6, 0);
        x.law(c, 5, 5);
        x.join(5, 5, 3);
        x.plate(0, 0, 2, 2);
        long before = x.digest();
        x.plate(4, 0, -1, 1);
        x.plate(4, 0, 0, 1);
        x.put(4, 2, 9, 0, 1);
        x.put(4, 0, 0, 0, 1);
        x.copy(4, 0);
        x.less(4, 0);
        x.less(0, 4);
        x.look(4, 9, 9);
        x.comb(0, 0, 9);
        x.band(c, 4, 9, 0);
        x.trace(c, 1);
        x.draw(c, 0, 4, 0);
        x.draw(c, 4, 5, 101);
        x.line(0);
        x.match(c, 0, 0);
        x.law(c, 0, 0);
        x.join(0, 0, 1);
        due.is("30: digest() after refusals", x.digest(), before);
        due.is("30: joined(0) after refusals", x.joined(0), 0);
        due.is("30: joined(1) after refusals", x.joined(1), 6);
    }
}

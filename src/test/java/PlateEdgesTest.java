import java.util.Arrays;

/** The boundary cases of promises 1 to 8, and of PLATES, LANES, COUNTS and CELLS: a test for each sentence. */
public final class PlateEdgesTest {
    private static final int LEAST = Edges.LEAST;
    private static final int MOST = Edges.MOST;
    private static final Due due = new Due();
    private static final Edges edges = new Edges(due);

    public static void main(String[] args) {
        newPlatesAreLost();
        newHasNoCombs();
        newHasNoLines();
        newHasNoBadCells();
        plateSizes();
        plateCountsAreNew();
        plateNumbers();
        plateLanes();
        plateSizesOutside();
        plateSizesBelow();
        plateOrder();
        putPlaces();
        putCasts();
        putRefused();
        putOrder();
        copyOfAll();
        copyRefused();
        copyOrder();
        lessWraps();
        lessOfOtherLanes();
        lessRefused();
        lessOrder();
        loseEdges();
        badCells();
        badIsOfAnyPlate();
        badRefused();
        lookPlaces();
        lookRefused();
        due.end();
    }

    // ---- promise 1

    private static void newPlatesAreLost() {
        due.of("1: PLATES are LOST");
        for (int p = 0; p <= 5; p++) {
            int lost = p;
            edges.causes(new CombedLight(), "lose(" + p + ")", Edges.NULL, x -> x.lose(lost));
        }
        edges.keeps(new CombedLight(), "count(0)", 0, x -> x.count(0));
    }

    private static void newHasNoCombs() {
        due.of("1: no COMBS");
        edges.keeps(new CombedLight(), "count(1)", 0, x -> x.count(1));
        edges.keeps(new CombedLight(), "told(0, 0)", CombedLight.UNKNOWN, x -> x.told(0, 0));
        due.is("the first comb's number", new CombedLight().comb(0, 0, 0), 0);
    }

    private static void newHasNoLines() {
        due.of("1: no LINES");
        edges.keeps(new CombedLight(), "count(2)", 0, x -> x.count(2));
        edges.keeps(new CombedLight(), "clear()", 0, CombedLight::clear);
        due.is("the first line", new CombedLight().line(1), 1);
    }

    private static void newHasNoBadCells() {
        due.of("1: no CELL is BAD");
        CombedLight x = new CombedLight();
        for (int cell = 0; cell < 400; cell++) {
            due.is("cell " + cell, x.bad(cell % 20, cell / 20, false), 0);
        }
        due.is("count(3)", x.count(3), 0);
    }

    // ---- promise 2

    private static void plateSizes() {
        due.of("2: W columns and H rows (1 to 20 each)");
        int[][] sizes = {{1, 1}, {1, 20}, {20, 1}, {20, 20}};
        for (int[] size : sizes) {
            CombedLight x = new CombedLight();
            String name = size[0] + " by " + size[1];
            due.is(name, x.plate(0, 2, size[0], size[1]), size[0]);
            due.is(name + ", its last place", x.look(0, size[0] - 1, size[1] - 1), 1);
            due.is(name + ", a column more", x.look(0, size[0], 0), -12);
            due.is(name + ", a row more", x.look(0, 0, size[1]), -12);
            long[] told = new long[10 + size[0] * size[1]];
            Arrays.fill(told, 0, 3, 2);
            told[1] = size[0];
            told[2] = size[1];
            Arrays.fill(told, 3 + size[0] * size[1], told.length - 2, -1);
            due.is(name + ", its digest", x.digest(), Scene.digestOf(told));
        }
    }

    private static void plateCountsAreNew() {
        due.of("2: a PLATE becomes a new one, each COUNT 0 at first");
        CombedLight x = new CombedLight();
        x.plate(3, 2, 20, 20);
        long empty = x.digest();
        int[] ends = {0, 19};
        for (int y : ends) {
            for (int column : ends) {
                x.put(3, 2, column, y, MOST);
            }
        }
        x.plate(3, 0, 1, 1);
        x.plate(3, 2, 20, 20);
        due.is("of 20 by 20 anew", x.digest(), empty);
        x.put(3, 2, 19, 19, 5);
        due.is("of the same size anew", x.plate(3, 2, 20, 20), 20);
        due.is("its digest", x.digest(), empty);
        x.put(3, 2, 0, 0, 5);
        x.lose(3);
        x.plate(3, 2, 20, 20);
        due.is("after it was lost", x.digest(), empty);
        due.is("count(0)", x.count(0), 1);
    }

    private static void plateNumbers() {
        due.of("2: UNKNOWN: p");
        for (int p : Edges.NO_PLATES) {
            edges.keeps("plate " + p, CombedLight.UNKNOWN, x -> x.plate(p, 0, 1, 1));
        }
        edges.takes("plate 0", 3, x -> x.plate(0, 0, 3, 1));
        edges.takes("plate 5", 3, x -> x.plate(5, 0, 3, 1));
    }

    private static void plateLanes() {
        due.of("2: OUTSIDE: LANE");
        for (int lane : Edges.NO_LANES) {
            edges.keeps("lane " + lane, CombedLight.OUTSIDE, x -> x.plate(0, lane, 1, 1));
        }
        for (int lane = 0; lane <= 2; lane++) {
            CombedLight x = new CombedLight();
            due.is("lane " + lane, x.plate(0, lane, 1, 1), 1);
            for (int other = 0; other <= 2; other++) {
                due.is("put by lane " + other, x.put(0, other, 0, 0, 1), other == lane ? 1 : -14);
            }
        }
    }

    private static void plateSizesOutside() {
        due.of("2: OUTSIDE: W or H is 0 or above 20");
        int[] sizes = {0, 21, MOST};
        for (int size : sizes) {
            edges.keeps("W " + size, CombedLight.OUTSIDE, x -> x.plate(0, 0, size, 20));
            edges.keeps("H " + size, CombedLight.OUTSIDE, x -> x.plate(0, 0, 20, size));
            edges.keeps("of a LOST one, W " + size, CombedLight.OUTSIDE, x -> x.plate(5, 0, size, 1));
            edges.keeps("of a LOST one, H " + size, CombedLight.OUTSIDE, x -> x.plate(5, 0, 1, size));
        }
    }

    private static void plateSizesBelow() {
        due.of("2: SIZE: W, then H is below 0");
        int[] sizes = {-1, LEAST};
        for (int size : sizes) {
            edges.causes("W " + size, Edges.SIZE, x -> x.plate(0, 0, size, 20));
            edges.causes("H " + size, Edges.SIZE, x -> x.plate(0, 0, 20, size));
            edges.causes("both " + size, Edges.SIZE, x -> x.plate(0, 0, size, size));
            edges.causes("of a LOST one, " + size, Edges.SIZE, x -> x.plate(5, 0, 1, size));
        }
    }

    private static void plateOrder() {
        due.of("2: UNKNOWN ahead of OUTSIDE ahead of SIZE");
        edges.keeps("p and LANE", CombedLight.UNKNOWN, x -> x.plate(6, 3, 1, 1));
        edges.keeps("p and W 0", CombedLight.UNKNOWN, x -> x.plate(-1, 0, 0, 1));
        edges.keeps("p and W below", CombedLight.UNKNOWN, x -> x.plate(6, 0, -1, 1));
        edges.keeps("LANE and W below", CombedLight.OUTSIDE, x -> x.plate(0, 3, -1, 1));
        edges.keeps("LANE and H below", CombedLight.OUTSIDE, x -> x.plate(0, -1, 1, -1));
        edges.keeps("W below and H 0", CombedLight.OUTSIDE, x -> x.plate(0, 0, -1, 0));
        edges.keeps("W below and H 21", CombedLight.OUTSIDE, x -> x.plate(0, 0, -1, 21));
        edges.keeps("W 0 and H below", CombedLight.OUTSIDE, x -> x.plate(0, 0, 0, -1));
        edges.keeps("W 21 and H below", CombedLight.OUTSIDE, x -> x.plate(0, 0, 21, -1));
    }

    // ---- promise 3

    private static void putPlaces() {
        due.of("3: the COUNT at a place becomes v: the corners, and no other");
        CombedLight x = new CombedLight();
        x.plate(0, 2, 20, 20);
        long[] told = new long[3 + 400 + 5 + 2];
        told[0] = 2;
        told[1] = 20;
        told[2] = 20;
        int v = 0;
        int[] ends = {0, 19};
        for (int y : ends) {
            for (int column : ends) {
                v++;
                due.is("put", x.put(0, 2, column, y, v), 1);
                told[3 + 20 * y + column] = v;
            }
        }
        for (int p = 1; p <= 5; p++) {
            told[402 + p] = -1;
        }
        due.is("digest()", x.digest(), Scene.digestOf(told));
        x.plate(5, 1, 1, 1);
        due.is("the only place", x.put(5, 1, 0, 0, -4), 1);
        due.is("its count", Due.at(x, 5, 0, 0), -4);
    }

    private static void putCasts() {
        due.of("3: v, cast to its LANE");
        int[][] casts = {
            {0, 127, 127}, {0, 128, -128}, {0, -128, -128}, {0, -129, 127}, {0, 255, -1}, {0, 256, 0},
            {0, MOST, -1}, {0, LEAST, 0},
            {1, 32767, 32767}, {1, 32768, -32768}, {1, -32768, -32768}, {1, -32769, 32767}, {1, 65535, -1},
            {1, 65536, 0}, {1, MOST, -1}, {1, LEAST, 0},
            {2, MOST, MOST}, {2, LEAST, LEAST}, {2, 32768, 32768}, {2, -129, -129}};
        for (int[] cast : casts) {
            CombedLight x = new CombedLight();
            x.plate(4, cast[0], 3, 2);
            due.is("put", x.put(4, cast[0], 2, 1, cast[1]), 1);
            due.is("lane " + cast[0] + ", " + cast[1], Due.at(x, 4, 2, 1), cast[2]);
        }
    }

    private static void putRefused() {
        due.of("3: UNKNOWN: p; OUTSIDE: LANE; NULL; CAST; INDEX");
        for (int p : Edges.NO_PLATES) {
            edges.keeps("plate " + p, CombedLight.UNKNOWN, x -> x.put(p, 2, 0, 0, 99));
        }
        for (int lane : Edges.NO_LANES) {
            edges.keeps("lane " + lane, CombedLight.OUTSIDE, x -> x.put(0, lane, 0, 0, 99));
        }
        edges.causes("LOST", Edges.NULL, x -> x.put(5, 2, 0, 0, 99));
        edges.causes("int by byte", Edges.CAST, x -> x.put(0, 0, 0, 0, 99));
        edges.causes("int by short", Edges.CAST, x -> x.put(0, 1, 0, 0, 99));
        edges.causes("short by int", Edges.CAST, x -> x.put(1, 2, 0, 0, 99));
        edges.causes("byte by short", Edges.CAST, x -> x.put(2, 1, 0, 0, 99));
        int[] noColumns = {LEAST, -1, 5, MOST};
        for (int column : noColumns) {
            edges.causes("x " + column, Edges.INDEX, x -> x.put(0, 2, column, 0, 99));
        }
        int[] noRows = {LEAST, -1, 3, MOST};
        for (int y : noRows) {
            edges.causes("y " + y, Edges.INDEX, x -> x.put(0, 2, 0, y, 99));
        }
        edges.causes("x is a row alone", Edges.INDEX, x -> x.put(4, 2, 4, 0, 99));
        edges.causes("y is a column alone", Edges.INDEX, x -> x.put(0, 2, 0, 4, 99));
    }

    private static void putOrder() {
        due.of("3: each refusal and CAUSE ahead of those told behind it");
        edges.keeps("p and LANE", CombedLight.UNKNOWN, x -> x.put(6, 3, -1, 0, 99));
        edges.keeps("LANE and LOST", CombedLight.OUTSIDE, x -> x.put(5, 3, 0, 0, 99));
        edges.keeps("LANE and another LANE and INDEX", CombedLight.OUTSIDE, x -> x.put(0, -1, -1, 0, 99));
        edges.causes("LOST and INDEX", Edges.NULL, x -> x.put(5, 0, -1, 0, 99));
        edges.causes("CAST and INDEX", Edges.CAST, x -> x.put(0, 1, 5, 3, 99));
    }

    // ---- promise 4

    private static void copyOfAll() {
        due.of("4: all COUNTS of t become those of s");
        int[][] mosts = {{0, 127, -128}, {1, 32767, -32768}, {2, MOST, LEAST}};
        for (int[] most : mosts) {
            CombedLight x = new CombedLight();
            x.plate(0, most[0], 20, 20);
            x.plate(5, most[0], 20, 20);
            x.put(0, most[0], 0, 0, most[1]);
            x.put(0, most[0], 19, 19, most[2]);
            x.put(5, most[0], 19, 0, 3);
            x.put(5, most[0], 0, 19, 4);
            due.is("copy(0, 5)", x.copy(0, 5), 1);
            due.is("the first", Due.at(x, 5, 0, 0), most[1]);
            due.is("the last", Due.at(x, 5, 19, 19), most[2]);
            due.is("the last of the first row", Due.at(x, 5, 19, 0), 0);
            due.is("the first of the last row", Due.at(x, 5, 0, 19), 0);
            due.is("s stays", Due.at(x, 0, 19, 19), most[2]);
        }
        edges.keeps("onto itself", 1, x -> x.copy(0, 0));
    }

    private static void copyRefused() {
        due.of("4: UNKNOWN: s, t; NULL: s, then t; CAST; UNLIKE");
        for (int p : Edges.NO_PLATES) {
            edges.keeps("s " + p, CombedLight.UNKNOWN, x -> x.copy(p, 0));
            edges.keeps("t " + p, CombedLight.UNKNOWN, x -> x.copy(0, p));
        }
        edges.causes("s is LOST", Edges.NULL, x -> x.copy(5, 0));
        edges.causes("t is LOST", Edges.NULL, x -> x.copy(0, 5));
        edges.causes("both are LOST", Edges.NULL, x -> x.copy(5, 5));
        edges.causes("another LANE", Edges.CAST, x -> x.copy(1, 0));
        edges.causes("another LANE, turned", Edges.CAST, x -> x.copy(0, 1));
        edges.causes("another H", Edges.UNLIKE, x -> x.copy(0, 3));
        edges.causes("another W and H", Edges.UNLIKE, x -> x.copy(4, 0));
        CombedLight narrow = Scene.open();
        narrow.plate(5, 2, 4, 3);
        edges.causes(narrow, "another W", Edges.UNLIKE, x -> x.copy(5, 0));
    }

    private static void copyOrder() {
        due.of("4: each refusal and CAUSE ahead of those told behind it");
        edges.keeps("UNKNOWN s and LOST t", CombedLight.UNKNOWN, x -> x.copy(6, 5));
        edges.keeps("LOST s and UNKNOWN t", CombedLight.UNKNOWN, x -> x.copy(5, -1));
        edges.causes("CAST and UNLIKE", Edges.CAST, x -> x.copy(0, 2));
    }

    // ---- promise 5

    private static void lessWraps() {
        due.of("5: t becomes t less s, cast to its LANE");
        int[][] sums = {
            {0, -128, 1, 127}, {0, 127, -1, -128}, {0, 0, -128, -128}, {0, -128, -128, 0}, {0, 127, 127, 0},
            {1, -32768, 1, 32767}, {1, 32767, -1, -32768}, {1, 0, -32768, -32768}, {1, 128, -1, 129},
            {2, LEAST, 1, MOST}, {2, MOST, -1, LEAST}, {2, 0, LEAST, LEAST}, {2, LEAST, MOST, 1}};
        for (int[] sum : sums) {
            CombedLight x = new CombedLight();
            x.plate(0, sum[0], 2, 2);
            x.plate(1, sum[0], 2, 2);
            x.put(1, sum[0], 1, 1, sum[1]);
            x.put(0, sum[0], 1, 1, sum[2]);
            due.is("less(0, 1)", x.less(0, 1), 1);
            due.is("lane " + sum[0] + ", " + sum[1] + " less " + sum[2], Due.at(x, 1, 1, 1), sum[3]);
            due.is("s stays", Due.at(x, 0, 1, 1), sum[2]);
            due.is("0 less 0", Due.at(x, 1, 0, 0), 0);
        }
    }

    private static void lessOfOtherLanes() {
        due.of("5: LANES may be others");
        int[][] sums = {
            {0, 0, 2, 129, 127}, {0, 5, 2, 256, 5}, {0, 5, 2, LEAST, 5}, {0, 1, 1, -127, -128}, {1, 32767, 0, -1, -32768},
            {1, 0, 2, 65536, 0}, {2, 0, 0, -128, 128}, {2, LEAST, 1, 1, MOST}};
        for (int[] sum : sums) {
            CombedLight x = new CombedLight();
            x.plate(5, sum[0], 1, 1);
            x.plate(0, sum[2], 1, 1);
            x.put(5, sum[0], 0, 0, sum[1]);
            x.put(0, sum[2], 0, 0, sum[3]);
            due.is("less(0, 5)", x.less(0, 5), 1);
            due.is(sum[1] + " less " + sum[3], Due.at(x, 5, 0, 0), sum[4]);
            due.is("its LANE stays", x.put(5, sum[0], 0, 0, 0), 1);
        }
        CombedLight x = Scene.open();
        due.is("from itself", x.less(0, 0), 1);
        due.is("nothing is left", Due.at(x, 0, 3, 1), 0);
        due.is("nothing is left of the first", Due.at(x, 0, 0, 0), 0);
    }

    private static void lessRefused() {
        due.of("5: UNKNOWN: s, t; NULL: s, then t; UNLIKE");
        for (int p : Edges.NO_PLATES) {
            edges.keeps("s " + p, CombedLight.UNKNOWN, x -> x.less(p, 0));
            edges.keeps("t " + p, CombedLight.UNKNOWN, x -> x.less(0, p));
        }
        edges.causes("s is LOST", Edges.NULL, x -> x.less(5, 0));
        edges.causes("t is LOST", Edges.NULL, x -> x.less(0, 5));
        edges.causes("both are LOST", Edges.NULL, x -> x.less(5, 5));
        edges.causes("another H", Edges.UNLIKE, x -> x.less(3, 0));
        edges.causes("another W and LANE", Edges.UNLIKE, x -> x.less(2, 0));
        edges.causes("another W and H", Edges.UNLIKE, x -> x.less(0, 4));
    }

    private static void lessOrder() {
        due.of("5: UNKNOWN ahead of NULL");
        edges.keeps("UNKNOWN s and LOST t", CombedLight.UNKNOWN, x -> x.less(-1, 5));
        edges.keeps("LOST s and UNKNOWN t", CombedLight.UNKNOWN, x -> x.less(5, 6));
    }

    // ---- promise 6

    private static void loseEdges() {
        due.of("6: a PLATE is LOST: 1. UNKNOWN; NULL");
        for (int p : Edges.NO_PLATES) {
            edges.keeps("plate " + p, CombedLight.UNKNOWN, x -> x.lose(p));
        }
        edges.causes("one that is LOST", Edges.NULL, x -> x.lose(5));
        CombedLight x = new CombedLight();
        for (int p = 0; p <= 5; p++) {
            x.plate(p, p % 3, 20, 20);
        }
        due.is("all are there", x.count(0), 6);
        for (int p = 5; p >= 0; p--) {
            due.is("lose(" + p + ")", x.lose(p), 1);
            due.is("those left", x.count(0), p);
        }
        due.is("digest as new", x.digest(), new CombedLight().digest());
        edges.causes(x, "lose(0) again", Edges.NULL, y -> y.lose(0));
    }

    // ---- promise 7

    private static void badCells() {
        due.of("7: a CELL is BAD, or not: 1 if it was, else 0");
        CombedLight x = new CombedLight();
        long[] told = new long[6 + 400 + 2];
        Arrays.fill(told, 0, 6, -1);
        for (int cell = 0; cell < 400; cell++) {
            due.is("was not", x.bad(cell % 20, cell / 20, true), 0);
            told[6 + cell] = cell;
        }
        due.is("all are BAD", x.count(3), 400);
        due.is("digest of all", x.digest(), Scene.digestOf(told));
        due.is("is, and stays", x.bad(19, 19, true), 1);
        due.is("400 still", x.count(3), 400);
        due.is("is no more", x.bad(19, 19, false), 1);
        due.is("399", x.count(3), 399);
        due.is("is not, and stays", x.bad(19, 19, false), 0);
        due.is("399 still", x.count(3), 399);
        due.is("its neighbour is", x.bad(18, 19, false), 1);
        due.is("the first is", x.bad(0, 0, false), 1);
        due.is("397", x.count(3), 397);
    }

    private static void badIsOfAnyPlate() {
        due.of("Terms: CELLS (x, y), of any PLATE, are BAD or not");
        for (int p = 0; p <= 5; p++) {
            CombedLight x = new CombedLight();
            x.bad(0, 0, true);
            Due.stand(x, p, 50, 0, 1);
            x.comb(16, 16, 1);
            due.is("trace by plate " + p, x.trace(0, p), 1);
            due.is("light of row 2 alone", x.told(0, 0), 32);
            x.lose(p);
            due.is("it outlives the PLATE", x.bad(0, 0, true), 1);
        }
    }

    private static void badRefused() {
        due.of("7: OUTSIDE: x, y are not 0 to 19");
        int[] beyond = {LEAST, -1, 20, MOST};
        for (int at : beyond) {
            edges.keeps("x " + at, CombedLight.OUTSIDE, x -> x.bad(at, 0, true));
            edges.keeps("y " + at, CombedLight.OUTSIDE, x -> x.bad(0, at, true));
            edges.keeps("both " + at, CombedLight.OUTSIDE, x -> x.bad(at, at, false));
        }
        // 20 y and x of these are numbers of other cells, one of them BAD.
        edges.keeps("(20, 0) is not (0, 1)", CombedLight.OUTSIDE, x -> x.bad(20, 0, true));
        edges.keeps("(-18, 1) is not (2, 0)", CombedLight.OUTSIDE, x -> x.bad(-18, 1, false));
        edges.takes("(0, 0)", 0, x -> x.bad(0, 0, true));
        edges.takes("(19, 0)", 0, x -> x.bad(19, 0, true));
        edges.takes("(0, 19)", 0, x -> x.bad(0, 19, true));
        edges.takes("(19, 19)", 1, x -> x.bad(19, 19, true));
    }

    // ---- promise 8

    private static void lookPlaces() {
        due.of("8: THE SEEN number becomes the COUNT at a place: 1");
        int[][] mosts = {{0, 127, -128}, {1, 32767, -32768}, {2, MOST, LEAST}};
        for (int[] most : mosts) {
            CombedLight x = new CombedLight();
            x.plate(5, most[0], 20, 20);
            x.put(5, most[0], 0, 0, most[1]);
            x.put(5, most[0], 19, 19, most[2]);
            due.is("look(5, 0, 0)", x.look(5, 0, 0), 1);
            due.is("seen()", x.seen(), most[1]);
            due.is("look(5, 19, 19)", x.look(5, 19, 19), 1);
            due.is("seen() then", x.seen(), most[2]);
            due.is("look(5, 19, 0)", x.look(5, 19, 0), 1);
            due.is("seen() of nothing put", x.seen(), 0);
        }
    }

    private static void lookRefused() {
        due.of("8: UNKNOWN; NULL; INDEX");
        for (int p : Edges.NO_PLATES) {
            edges.keeps("plate " + p, CombedLight.UNKNOWN, x -> x.look(p, 0, 0));
        }
        edges.causes("LOST", Edges.NULL, x -> x.look(5, 0, 0));
        edges.causes("LOST, and no place", Edges.NULL, x -> x.look(5, -1, 20));
        int[] noColumns = {LEAST, -1, 5, MOST};
        for (int column : noColumns) {
            edges.causes("x " + column, Edges.INDEX, x -> x.look(0, column, 0));
        }
        int[] noRows = {LEAST, -1, 3, MOST};
        for (int y : noRows) {
            edges.causes("y " + y, Edges.INDEX, x -> x.look(0, 0, y));
        }
        CombedLight great = Scene.open();
        great.plate(5, 0, 20, 20);
        edges.causes(great, "beyond 20 columns", Edges.INDEX, x -> x.look(5, 20, 0));
        edges.causes(great, "beyond 20 rows", Edges.INDEX, x -> x.look(5, 0, 20));
    }
}

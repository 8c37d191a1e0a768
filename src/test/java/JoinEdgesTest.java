/** The boundary cases of promises 22 to 25, and of JOINING and SHIFT: a test for each sentence. */
public final class JoinEdgesTest {
    private static final int LEAST = Edges.LEAST;
    private static final int MOST = Edges.MOST;
    private static final Due due = new Due();
    private static final Edges edges = new Edges(due);

    public static void main(String[] args) {
        joinBounds();
        joinRefused();
        joinWithoutLaw();
        joinAtAWave();
        joinOfOneColumn();
        joinOfTheLeastAndGreatestLaws();
        joinOfWeights();
        joinOfTheGreatest();
        joinWhereThereIsNone();
        joinedEdges();
        joinedOfTheLatest();
        shiftBounds();
        shiftWhereBothAre();
        shiftOfTheGreatest();
        shiftRefused();
        bestBounds();
        bestOfLikeOnes();
        bestRefused();
        due.end();
    }

    private static CombedLight lawful(int a, int b, int... numbers) {
        CombedLight x = new CombedLight();
        x.law(Due.row(x, numbers), a, b);
        return x;
    }

    private static void joinedAre(CombedLight x, String name, long... numbers) {
        for (int k = 0; k < numbers.length; k++) {
            due.is(name + ", joined(" + k + ")", x.joined(k), numbers[k]);
        }
        due.is(name + ", behind the last", x.joined(numbers.length), -1);
    }

    // ---- promise 22

    private static void joinBounds() {
        due.of("22: n 1 to 60, step 1 to 100000, g -1000000 to 1000000");
        CombedLight x = lawful(-1000000, 1, 4, 5, 6);
        due.is("the least g, d, n", x.join(-1000000, 1, 1), 1);
        joinedAre(x, "the least", 4);
        due.is("n 60", x.join(-1000000, 1, 60), 3);
        due.is("the third", x.joined(2), 6);
        due.is("the 60th", x.joined(59), 0);
        due.is("a 61st", x.joined(60), -1);
        CombedLight y = lawful(1000000, 100000, 1, 2, 3, 4, 5, 6, 7, 8, 9, 10, 11, 12, 13, 14, 15, 16, 17, 18, 19, 20);
        due.is("the greatest g, d, n", y.join(1000000, 100000, 60), 20);
        due.is("the first", y.joined(0), 1);
        due.is("the 20th", y.joined(19), 20);
        due.is("the 21st", y.joined(20), 0);
        due.is("the 60th", y.joined(59), 0);
        due.is("a 61st", y.joined(60), -1);
    }

    private static void joinRefused() {
        due.of("22: OUTSIDE");
        int[] noStarts = {LEAST, -1000001, 1000001, MOST};
        for (int g : noStarts) {
            edges.keeps("g " + g, CombedLight.OUTSIDE, x -> x.join(g, 1, 1));
        }
        int[] noSteps = {LEAST, -1, 0, 100001, MOST};
        for (int d : noSteps) {
            edges.keeps("d " + d, CombedLight.OUTSIDE, x -> x.join(0, d, 1));
        }
        int[] noWaves = {LEAST, -1, 0, 61, MOST};
        for (int n : noWaves) {
            edges.keeps("n " + n, CombedLight.OUTSIDE, x -> x.join(0, 1, n));
        }
    }

    private static void joinWithoutLaw() {
        due.of("22: STATE: no ROW has a LAW");
        edges.keeps(new CombedLight(), "no COMB", CombedLight.STATE, x -> x.join(0, 1, 1));
        CombedLight empty = new CombedLight();
        empty.comb(0, 0, 0);
        edges.keeps(empty, "an empty ROW", CombedLight.STATE, x -> x.join(0, 1, 1));
        CombedLight gone = Scene.full();
        gone.draw(0, 0, 1, 0);
        due.is("one LAW of two is left", gone.join(13, 1, 1), 1);
        gone.draw(1, 0, 1, 0);
        edges.keeps(gone, "LAWS that are gone", CombedLight.STATE, x -> x.join(5, 1, 3));
        edges.keeps(gone, "OUTSIDE ahead of STATE, g", CombedLight.OUTSIDE, x -> x.join(1000001, 1, 1));
        CombedLight none = new CombedLight();
        edges.keeps(none, "OUTSIDE ahead of STATE, d", CombedLight.OUTSIDE, x -> x.join(0, 0, 1));
        edges.keeps(none, "OUTSIDE ahead of STATE, n", CombedLight.OUTSIDE, x -> x.join(0, 1, 61));
    }

    private static void joinAtAWave() {
        due.of("Terms: the greatest not above it, if x and 1 is a column of it, too, or the wave is just its");
        CombedLight x = lawful(100, 3, 5, 6, 7);
        due.is("waves 99 to 107", x.join(99, 1, 9), 7);
        joinedAre(x, "by 1", 0, 5, 5, 5, 6, 6, 6, 7, 0);
        due.is("waves 98 and 107", x.join(98, 9, 2), 0);
        joinedAre(x, "beside both ends", 0, 0);
        CombedLight y = lawful(-2, 3, 5, 6);
        due.is("waves -3 to 2", y.join(-3, 1, 6), 4);
        joinedAre(y, "around 0", 0, 5, 5, 5, 6, 0);
    }

    private static void joinOfOneColumn() {
        due.of("Terms: or the wave is just its: a ROW of one column");
        CombedLight x = lawful(10, 100000, 9);
        due.is("9, 10, 11", x.join(9, 1, 3), 1);
        joinedAre(x, "one column", 0, 9, 0);
    }

    private static void joinOfTheLeastAndGreatestLaws() {
        due.of("Terms: waves of the least and the greatest LAWS");
        CombedLight x = lawful(-1000000, 100000, 1, 2, 3, 4, 5, 6, 7, 8, 9, 10, 11, 12, 13, 14, 15, 16, 17, 18, 19, 20);
        due.is("from -1000000 on", x.join(-1000000, 100000, 20), 20);
        due.is("the last", x.joined(19), 20);
        due.is("one below each", x.join(-1000001 + 100000, 100000, 20), 19);
        due.is("one below the second", x.joined(0), 1);
        due.is("one below the last", x.joined(18), 19);
        due.is("behind the last", x.joined(19), 0);
        CombedLight y = lawful(1000000, 1, 8, 9);
        due.is("999999 to 1000002", y.join(999999, 1, 4), 2);
        joinedAre(y, "the greatest A", 0, 8, 9, 0);
    }

    private static void joinOfWeights() {
        due.of("Terms: the sum of numbers times weights by the sum of weights, rounded down; its weight: that number and 1");
        CombedLight x = new CombedLight();
        x.law(Due.row(x, 10, 0, 7), 100, 10);
        x.law(Due.row(x, 5, 1, 7), 100, 10);
        due.is("join", x.join(100, 10, 3), 3);
        // 140 by 17; 2 by 3; 112 by 16.
        joinedAre(x, "two ROWS", 8, 0, 7);
        Due.row(x, 90000, 90000, 90000);
        due.is("a ROW without a LAW is none", x.join(100, 10, 3), 3);
        joinedAre(x, "two ROWS still", 8, 0, 7);
    }

    private static void joinOfTheGreatest() {
        due.of("Terms: JOINING: four ROWS of the greatest numbers");
        CombedLight x = new CombedLight();
        x.plate(0, 2, 1, 7);
        for (int y = 0; y < 7; y++) {
            x.put(0, 2, 0, y, MOST);
        }
        for (int c = 0; c < 4; c++) {
            x.comb(48, 48, 3);
            x.draw(c, 0, 0, 0);
            x.law(c, 1, 1);
        }
        due.is("join", x.join(1, 1, 1), 1);
        due.is("700000", x.joined(0), 700000);
    }

    private static void joinWhereThereIsNone() {
        due.of("Terms: 0 where there is none; 22: how many waves of the GRID some ROW has a number for");
        CombedLight x = lawful(0, 1, 0, 0, 0);
        due.is("numbers of 0 are numbers", x.join(-1, 1, 5), 3);
        joinedAre(x, "all are 0", 0, 0, 0, 0, 0);
        x.law(Due.row(x, 4, 4), 50, 1);
        due.is("each wave counts once", x.join(0, 1, 60), 5);
        due.is("none at all", x.join(60, 1, 60), 0);
        due.is("none, so 0", x.joined(59), 0);
    }

    // ---- promise 23

    private static void joinedEdges() {
        due.of("23: -1: there is none");
        int[] none = {LEAST, -1, 7, 59, 60, MOST};
        for (int k : none) {
            edges.keeps("k " + k, -1, x -> x.joined(k));
        }
        edges.keeps(new CombedLight(), "none yet", -1, x -> x.joined(0));
        edges.keeps("the first", 0, x -> x.joined(0));
        // 40 with weight 41 and 9 with weight 10: 1730 by 51.
        edges.keeps("the last", 33, x -> x.joined(6));
    }

    private static void joinedOfTheLatest() {
        due.of("23: the k-th number of the latest JOINING");
        CombedLight x = lawful(0, 1, 8, 9, 7);
        x.join(0, 1, 3);
        joinedAre(x, "of three", 8, 9, 7);
        x.join(1, 1, 1);
        joinedAre(x, "of one", 9);
        x.join(0, 1, 61);
        x.join(-1000001, 1, 2);
        joinedAre(x, "refused ones are none", 9);
        Due.redraw(x, 0, 1, 1, 1);
        x.join(0, 1, 2);
        joinedAre(x, "nor is one without a LAW", 9);
        x.law(0, 0, 1);
        joinedAre(x, "nor is a LAW alone", 9);
        x.join(0, 1, 4);
        joinedAre(x, "of four", 1, 1, 1, 0);
    }

    // ---- promise 24

    private static int[] oneOf(int columns, int at, int number) {
        int[] row = new int[columns];
        row[at] = number;
        return row;
    }

    private static void shiftBounds() {
        due.of("24: SHIFT of two ROWS by s (-19 to 19)");
        CombedLight x = new CombedLight();
        int c = Due.row(x, oneOf(20, 0, 3));
        int d = Due.row(x, oneOf(20, 19, 5));
        due.is("19", x.shift(c, d, 19), 15);
        due.is("18", x.shift(c, d, 18), 0);
        due.is("-19", x.shift(c, d, -19), 0);
        due.is("-19 turned", x.shift(d, c, -19), 15);
        due.is("19 turned", x.shift(d, c, 19), 0);
    }

    private static void shiftWhereBothAre() {
        due.of("Terms: of column x of the first, x and s of the second, where both are");
        CombedLight x = new CombedLight();
        int c = Due.row(x, 1, 2, 3);
        int d = Due.row(x, 10, 100);
        long[] sums = {0, 30, 320, 210, 100, 0};
        for (int s = -3; s <= 2; s++) {
            due.is("3 and 2 columns by " + s, x.shift(c, d, s), sums[s + 3]);
            due.is("2 and 3 columns by " + -s, x.shift(d, c, -s), sums[s + 3]);
        }
        Due.redraw(x, c, 7);
        // What a longer row held behind its last column is none of it.
        due.is("a shorter ROW", x.shift(c, d, 1) + x.shift(c, c, 0), 749);
        int e = x.comb(0, 0, 0);
        due.is("an empty second", x.shift(c, e, 0), 0);
        due.is("an empty first", x.shift(e, c, 0), 0);
        due.is("both are empty", x.shift(e, e, 0), 0);
    }

    private static void shiftOfTheGreatest() {
        due.of("Terms: SHIFT: the sum of products of the greatest numbers");
        CombedLight x = new CombedLight();
        x.plate(0, 2, 20, 7);
        for (int i = 0; i < 140; i++) {
            x.put(0, 2, i % 20, i / 20, MOST);
        }
        x.comb(48, 48, 3);
        x.draw(0, 0, 0, 0);
        due.is("by 0", x.shift(0, 0, 0), 9800000000000L);
        due.is("by 19", x.shift(0, 0, 19), 490000000000L);
        due.is("by -19", x.shift(0, 0, -19), 490000000000L);
        due.is("the best", x.best(0, 0), 0);
    }

    private static void shiftRefused() {
        due.of("24: UNKNOWN (as -101): c, d; OUTSIDE (as -102): s");
        for (int c : Edges.NO_COMBS) {
            edges.keeps("c " + c, -101, x -> x.shift(c, 0, 0));
            edges.keeps("d " + c, -101, x -> x.shift(0, c, 0));
            edges.keeps("c, and s, " + c, -101, x -> x.shift(c, 0, 20));
            edges.keeps("d, and s, " + c, -101, x -> x.shift(0, c, -20));
        }
        int[] noShifts = {LEAST, -20, 20, MOST};
        for (int s : noShifts) {
            edges.keeps("s " + s, -102, x -> x.shift(0, 1, s));
            edges.keeps("s " + s + " of an empty ROW", -102, x -> x.shift(2, 2, s));
        }
    }

    // ---- promise 25

    private static void bestIs(String name, int[] first, int[] second, int best) {
        CombedLight x = new CombedLight();
        Due.row(x, first);
        Due.row(x, second);
        due.is(name, x.best(0, 1), best);
    }

    private static void bestBounds() {
        due.of("Terms: the BEST of -8 to 8: the greatest sum");
        int[] one = {1};
        bestIs("8", one, oneOf(9, 8, 2), 8);
        bestIs("-8", oneOf(9, 8, 2), one, -8);
        bestIs("9 is none of them", one, oneOf(10, 9, 2), 0);
        bestIs("-9 is none of them", oneOf(10, 9, 2), one, 0);
        int[] both = oneOf(10, 9, 100);
        both[8] = 1;
        bestIs("8, though 9 is greater", one, both, 8);
        bestIs("-8, though -9 is greater", both, one, -8);
        bestIs("one more than at 0", one, new int[] {4, 5}, 1);
    }

    private static void bestOfLikeOnes() {
        due.of("Terms: of like ones the least size, then the lesser");
        int[] middle = oneOf(17, 8, 1);
        int[] ends = oneOf(17, 0, 6);
        ends[16] = 6;
        bestIs("-8 and 8", middle, ends, -8);
        ends[15] = 6;
        bestIs("-8, 7 and 8", middle, ends, 7);
        ends[1] = 6;
        bestIs("-8, -7, 7 and 8", middle, ends, -7);
        ends[9] = 6;
        bestIs("1 and greater sizes", middle, ends, 1);
        ends[7] = 6;
        bestIs("-1, 1 and greater sizes", middle, ends, -1);
        ends[8] = 6;
        bestIs("0 and all", middle, ends, 0);
        bestIs("no light at all", middle, oneOf(17, 0, 0), 0);
    }

    private static void bestRefused() {
        due.of("25: -100: UNKNOWN; -101: one is empty");
        for (int c : Edges.NO_COMBS) {
            edges.keeps("c " + c, -100, x -> x.best(c, 0));
            edges.keeps("d " + c, -100, x -> x.best(0, c));
            edges.keeps("c, and an empty one, " + c, -100, x -> x.best(c, 2));
            edges.keeps("d, and an empty one, " + c, -100, x -> x.best(2, c));
        }
        edges.keeps("the first is empty", -101, x -> x.best(2, 0));
        edges.keeps("the second is empty", -101, x -> x.best(0, 2));
        edges.keeps("both are empty", -101, x -> x.best(2, 2));
        edges.keeps("none is empty", 0, x -> x.best(0, 0));
    }
}

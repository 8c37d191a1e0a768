/** Promises 15 to 21: peaks, peak, line, clear, match, law, wave. */
public final class LawsTest {
    private static final Due due = new Due();
    private static final int LEAST = Integer.MIN_VALUE;
    private static final int MOST = Integer.MAX_VALUE;

    public static void main(String[] args) {
        peaks();
        peak();
        line();
        clear();
        match();
        matchOfLikeLaws();
        matchBounds();
        matchBetweenColumns();
        matchOfFourPeaks();
        matchOfNinePeaks();
        matchForgetsWhatIsGone();
        matchRefused();
        law();
        wave();
        due.end();
    }

    private static void peaks() {
        CombedLight x = new CombedLight();
        int c = Due.row(x, 9, 5, 7, 7, 3, 8, 8, 9, 4, 6);
        // Column 2 is like its right one, column 7 above both; columns 0 and 9 are the ends, 5 climbs on.
        due.is("15: columns 2, 5 and 7", x.peaks(c, 1), 3);
        due.is("15: t is met just", x.peaks(c, 8), 2);
        due.is("15: t above", x.peaks(c, 9), 1);
        due.is("15: t beyond all", x.peaks(c, 10), 0);
        due.is("15: t far", x.peaks(c, Long.MAX_VALUE), 0);
        due.is("15: t beyond an int", x.peaks(c, 4294967297L), 0);
        due.is("15: t 0", x.peaks(c, 0), CombedLight.OUTSIDE);
        due.is("15: t below", x.peaks(c, Long.MIN_VALUE), CombedLight.OUTSIDE);
        due.is("15: c above", x.peaks(1, 0), CombedLight.UNKNOWN);
        due.is("15: c below", x.peaks(-1, 0), CombedLight.UNKNOWN);
        Due.redraw(x, c, 5, 5, 3);
        due.is("15: like the left one", x.peaks(c, 1), 0);
        Due.redraw(x, c, 1, 2, 3, 4, 5);
        due.is("15: a row that climbs", x.peaks(c, 1), 0);
        Due.redraw(x, c, 5, 4, 3, 2, 1);
        due.is("15: a row that falls", x.peaks(c, 1), 0);
        Due.redraw(x, c, 0, 0, 0, 0);
        due.is("15: no light", x.peaks(c, 1), 0);
        Due.redraw(x, c, 1, 2);
        due.is("15: two columns", x.peaks(c, 1), 0);
        Due.redraw(x, c, 1, 2, 2);
        due.is("15: three columns, level to the end", x.peaks(c, 1), 1);
        due.is("15: an empty row", x.peaks(x.comb(0, 0, 0), 1), 0);
    }

    private static void peak() {
        CombedLight x = new CombedLight();
        int c = Due.row(x, 9, 5, 7, 7, 3, 8, 8, 9, 4, 6);
        due.is("16: the first, 128 and 64 times 2 by 19", x.peak(c, 1, 0), 134);
        due.is("16: the second, 320 and 64 times 5 by 19", x.peak(c, 1, 1), 336);
        due.is("16: the third, 448 less 64 times 4 by 21, down", x.peak(c, 1, 2), 435);
        due.is("16: there is none", x.peak(c, 1, 3), CombedLight.NONE);
        due.is("16: k below", x.peak(c, 1, -1), CombedLight.NONE);
        due.is("16: k far below", x.peak(c, 1, LEAST), CombedLight.NONE);
        due.is("16: k far above", x.peak(c, 1, MOST), CombedLight.NONE);
        due.is("16: t leaves out the first", x.peak(c, 8, 0), 336);
        due.is("16: t leaves out two", x.peak(c, 9, 0), 435);
        due.is("16: t 0", x.peak(c, 0, 0), CombedLight.OUTSIDE);
        due.is("16: t below, k below", x.peak(c, -1, -1), CombedLight.OUTSIDE);
        due.is("16: c", x.peak(1, 0, 0), CombedLight.UNKNOWN);
        due.is("16: c below", x.peak(-1, 0, 0), CombedLight.UNKNOWN);
        Due.redraw(x, c, 0, 100000, 100000);
        due.is("16: the greatest step to the right", x.peak(c, 1, 0), 96);
        Due.redraw(x, c, 99999, 100000, 0);
        due.is("16: the greatest step to the left", x.peak(c, 1, 0), 32);
    }

    private static void line() {
        CombedLight x = new CombedLight();
        due.is("17: 0", x.line(0), CombedLight.OUTSIDE);
        due.is("17: below", x.line(LEAST), CombedLight.OUTSIDE);
        due.is("17: above", x.line(1000001), CombedLight.OUTSIDE);
        due.is("17: 1", x.line(1), 1);
        due.is("17: not above the last", x.line(1), CombedLight.OUTSIDE);
        for (int i = 2; i <= 11; i++) {
            due.is("17: the next", x.line(10 * i), i);
        }
        due.is("17: below the last", x.line(109), CombedLight.OUTSIDE);
        due.is("17: count(2)", x.count(2), 11);
        due.is("17: the last of 12", x.line(999999), 12);
        due.is("17: outside ahead of full", x.line(999999), CombedLight.OUTSIDE);
        due.is("17: outside ahead of full, above", x.line(1000001), CombedLight.OUTSIDE);
        due.is("17: full", x.line(1000000), CombedLight.FULL);
        due.is("17: count(2) then", x.count(2), 12);
        CombedLight y = new CombedLight();
        due.is("17: 1000000", y.line(1000000), 1);
    }

    private static void clear() {
        CombedLight x = new CombedLight();
        x.line(500);
        x.line(600);
        due.is("18: clear()", x.clear(), 2);
        due.is("18: count(2)", x.count(2), 0);
        due.is("18: clear() again", x.clear(), 0);
        due.is("18: digest as new", x.digest(), new CombedLight().digest());
        due.is("18: lines anew", x.line(1), 1);
    }

    private static void match() {
        CombedLight x = new CombedLight();
        int c = Due.row(x, 1, 90, 1, 80, 1, 1, 70, 60, 1);
        due.is("19: no lines", x.match(c, 2, 0), 0);
        x.line(100);
        due.is("19: one line", x.match(c, 2, 10000), 0);
        due.is("19: no law", x.told(c, 4), 0);
        x.line(120);
        x.line(150);
        // Places 64, 192, 412: 64 and 412 with 100 and 150 tell B 9, A 91, waves 100, 118, 148.
        due.is("19: the second line is 2 off", x.match(c, 2, 2), 3);
        due.is("19: A", x.told(c, 5), 91);
        due.is("19: B", x.told(c, 6), 9);
        due.is("19: fitted", x.told(c, 7), 3);
        due.is("19: 1 is too little", x.match(c, 2, 1), 2);
        due.is("19: fitted then", x.told(c, 7), 2);
        due.is("19: t leaves two peaks", x.match(c, 71, 0), 2);
        int a = x.told(c, 5);
        due.is("19: t leaves one peak", x.match(c, 81, 10000), 0);
        due.is("19: the law stays", x.told(c, 4), 1);
        due.is("19: its A stays", x.told(c, 5), a);
        due.is("19: its fits stay", x.told(c, 7), 2);
        due.is("19: count(5)", x.count(5), 6);
        due.is("19: count(4)", x.count(4), 1);
        due.is("19: an empty row", x.match(x.comb(0, 0, 0), 1, 0), 0);
    }

    private static void matchOfLikeLaws() {
        CombedLight x = new CombedLight();
        int c = Due.row(x, 0, 10, 0, 10, 0);
        x.line(100);
        x.line(200);
        x.line(300);
        // Laws (B 50, A 50), (B 50, A 150), (B 100, A 0) fit both peaks.
        due.is("19: like laws", x.match(c, 1, 0), 2);
        due.is("19: the least B", x.told(c, 6), 50);
        due.is("19: then the least A", x.told(c, 5), 50);
        x.clear();
        x.line(100);
        x.line(300);
        x.line(340);
        x.line(360);
        // Here the least B, 10, comes with the greatest A.
        due.is("19: like laws, the last ones", x.match(c, 1, 0), 2);
        due.is("19: the least B of the last", x.told(c, 6), 10);
        due.is("19: its A", x.told(c, 5), 330);
    }

    private static void matchBounds() {
        CombedLight x = new CombedLight();
        int c = Due.row(x, 0, 10, 0, 10, 0);
        x.line(1);
        x.line(2);
        due.is("19: B is 0", x.match(c, 1, 10000), 0);
        x.line(3);
        due.is("19: B is 1", x.match(c, 1, 0), 2);
        due.is("19: B 1", x.told(c, 6), 1);
        x.clear();
        x.line(1);
        x.line(200003);
        due.is("19: B is 100001", x.match(c, 1, 10000), 0);
        x.clear();
        x.line(1);
        x.line(200002);
        due.is("19: B is 100000", x.match(c, 1, 1), 2);
        due.is("19: B 100000", x.told(c, 6), 100000);
        due.is("19: A -99999", x.told(c, 5), -99999);
        // Peaks in columns 11 and 13 (A is u less 11 B): 1100000 less u is at most 1000000 from u 100000 on.
        Due.redraw(x, c, 0, 0, 0, 0, 0, 0, 0, 0, 0, 0, 0, 7, 0, 7, 0);
        x.clear();
        x.line(99999);
        x.line(299999);
        due.is("19: A is -1000001", x.match(c, 1, 10000), 0);
        due.is("19: no law then", x.told(c, 4), 0);
        x.clear();
        x.line(100000);
        x.line(300000);
        due.is("19: A is -1000000", x.match(c, 1, 0), 2);
        due.is("19: A", x.told(c, 5), -1000000);
    }

    private static void matchBetweenColumns() {
        CombedLight x = new CombedLight();
        int c = Due.row(x, 0, 3, 1, 0, 8, 2, 0);
        due.is("19: place, 64 and 64 by 4", x.peak(c, 1, 0), 80);
        due.is("19: place, 256 and 128 by 10", x.peak(c, 1, 1), 268);
        x.line(1000);
        x.line(1500);
        // B is 32000 by 188, 170; 170 times 80 by 64 is 212.5, rounded down and taken off: A 788.
        due.is("19: one below the second line", x.match(c, 1, 1), 2);
        due.is("19: B", x.told(c, 6), 170);
        due.is("19: A", x.told(c, 5), 788);
        due.is("19: the first line is met", x.wave(c, 80), 1000);
        due.is("19: the second is missed by one", x.wave(c, 268), 1499);
        due.is("19: E 0 fits one alone", x.match(c, 1, 0), 0);
    }

    private static void matchOfFourPeaks() {
        CombedLight x = new CombedLight();
        int c = Due.row(x, 0, 9, 0, 9, 0, 0, 9, 0, 0, 0, 9, 0);
        // Columns 1, 3, 6, 10 with 7 waves a column from 500 on, and lines that belong to none.
        x.line(400);
        x.line(507);
        x.line(521);
        x.line(530);
        x.line(542);
        x.line(570);
        x.line(571);
        due.is("19: four peaks", x.match(c, 1, 0), 4);
        due.is("19: A of four", x.told(c, 5), 500);
        due.is("19: B of four", x.told(c, 6), 7);
        due.is("19: fitted of four", x.told(c, 7), 4);
    }

    private static void matchOfNinePeaks() {
        CombedLight x = new CombedLight();
        int c = Due.row(x, 0, 5, 0, 5, 0, 5, 0, 5, 0, 5, 0, 5, 0, 5, 0, 5, 0, 5, 0, 5);
        due.is("19: nine peaks are the most", x.peaks(c, 1), 9);
        for (int i = 1; i <= 9; i++) {
            x.line(1000 + 20 * i);
        }
        due.is("19: nine peaks", x.match(c, 1, 0), 9);
        due.is("19: A of nine", x.told(c, 5), 1010);
        due.is("19: B of nine", x.told(c, 6), 10);
    }

    private static void matchForgetsWhatIsGone() {
        CombedLight x = new CombedLight();
        int c = Due.row(x, 0, 9, 0, 9, 0, 5, 0);
        x.line(10);
        x.line(20);
        x.line(30);
        due.is("19: three lines", x.match(c, 1, 0), 3);
        x.clear();
        x.line(10);
        x.line(20);
        due.is("19: two lines are left", x.match(c, 1, 0), 2);
        x.clear();
        x.line(100);
        x.line(200);
        due.is("19: three peaks", x.peaks(c, 1), 3);
        // With the third peak's place (320) B would be 25, and E 50 would let both peaks fit it.
        due.is("19: two peaks are left", x.match(c, 6, 50), 2);
        due.is("19: B of the two", x.told(c, 6), 50);
        for (int i = 3; i <= 12; i++) {
            x.line(100 * i);
        }
        due.is("19: twelve lines", x.match(c, 1, 0), 3);
        due.is("19: B of twelve lines", x.told(c, 6), 50);
        due.is("19: A of twelve lines", x.told(c, 5), 50);
        due.is("19: no line is near", x.law(c, 5, 5) + x.match(c, 10, 0), 1);
    }

    private static void matchRefused() {
        CombedLight x = new CombedLight();
        int c = Due.row(x, 0, 10, 0, 10, 0);
        x.line(100);
        x.line(200);
        due.is("19: c above", x.match(1, 0, -1), CombedLight.UNKNOWN);
        due.is("19: c below", x.match(-1, 0, -1), CombedLight.UNKNOWN);
        due.is("19: t", x.match(c, 0, 0), CombedLight.OUTSIDE);
        due.is("19: t below", x.match(c, Long.MIN_VALUE, 0), CombedLight.OUTSIDE);
        due.is("19: e below", x.match(c, 1, -1), CombedLight.OUTSIDE);
        due.is("19: e above", x.match(c, 1, 10001), CombedLight.OUTSIDE);
        due.is("19: none was done", x.count(5), 0);
        for (int i = 0; i < 200; i++) {
            due.is("19: match", x.match(c, 1 + i % 20, 10000), i % 20 < 10 ? 2 : 0);
        }
        due.is("19: 200 were done", x.count(5), 200);
        x.law(c, 3, 4);
        due.is("19: full", x.match(c, 1, 0), CombedLight.FULL);
        due.is("19: outside ahead of full", x.match(c, 1, 10001), CombedLight.OUTSIDE);
        due.is("19: unknown ahead of full", x.match(1, 1, 0), CombedLight.UNKNOWN);
        due.is("19: the law stays", x.told(c, 5), 3);
        due.is("19: 200 still", x.count(5), 200);
    }

    private static void law() {
        CombedLight x = new CombedLight();
        x.comb(0, 0, 0);
        due.is("20: c above", x.law(1, 1000001, 0), CombedLight.UNKNOWN);
        due.is("20: c below", x.law(-1, 0, 1), CombedLight.UNKNOWN);
        due.is("20: outside ahead of state", x.law(0, 0, 0), CombedLight.OUTSIDE);
        due.is("20: empty", x.law(0, 0, 1), CombedLight.STATE);
        due.is("20: no law", x.told(0, 4), 0);
        Due.redraw(x, 0, 1);
        due.is("20: a above", x.law(0, 1000001, 1), CombedLight.OUTSIDE);
        due.is("20: a below", x.law(0, -1000001, 1), CombedLight.OUTSIDE);
        due.is("20: b below", x.law(0, 0, 0), CombedLight.OUTSIDE);
        due.is("20: b above", x.law(0, 0, 100001), CombedLight.OUTSIDE);
        due.is("20: b far below", x.law(0, 0, LEAST), CombedLight.OUTSIDE);
        due.is("20: no law still", x.count(4), 0);
        due.is("20: a least, b most", x.law(0, -1000000, 100000), 1);
        due.is("20: A", x.told(0, 5), -1000000);
        due.is("20: a most, b least", x.law(0, 1000000, 1), 1);
        due.is("20: B", x.told(0, 6), 1);
        due.is("20: count(4)", x.count(4), 1);
        due.is("20: no cause", x.cause(), 0);
    }

    private static void wave() {
        CombedLight x = new CombedLight();
        due.is("21: no comb", x.wave(0, -1), -2000000000);
        due.is("21: c below", x.wave(-1, 0), -2000000000);
        int c = Due.row(x, 1);
        due.is("21: z below, no law", x.wave(c, -1), -2000000001);
        due.is("21: z above, no law", x.wave(c, 2001), -2000000001);
        due.is("21: z far", x.wave(c, LEAST), -2000000001);
        due.is("21: no law", x.wave(c, 0), -2000000002);
        x.law(c, -7, 3);
        due.is("21: z 0", x.wave(c, 0), -7);
        due.is("21: 63 by 64, down", x.wave(c, 21), -7);
        due.is("21: 66 by 64, down", x.wave(c, 22), -6);
        due.is("21: z 2000", x.wave(c, 2000), 86);
        due.is("21: z 2001", x.wave(c, 2001), -2000000001);
        x.law(c, 1000000, 100000);
        due.is("21: the greatest", x.wave(c, 2000), 4125000);
        due.is("21: no cause", x.cause(), 0);
    }
}

import java.util.Arrays;

/** Spectra in slanting rows on plates: traced, drawn out, matched to told lines, joined and shifted. */
public final class CombedLight {
    public static final int NONE = -1, UNKNOWN = -101, OUTSIDE = -102, STATE = -103, FULL = -104;

    private static final int NULL = 1, INDEX = 2, SIZE = 3, CAST = 4, UNLIKE = 5;
    private static final int CAUSE_BASE = -10;
    private static final int BYTE_LANE = 0, SHORT_LANE = 1, INT_LANE = 2;
    private static final int MOST_SIDE = 20;
    private static final int MOST_PLATES = 6, MOST_COMBS = 4, MOST_LINES = 12, MOST_WAVES = 60;
    private static final int MOST_MIDDLE = 304, MOST_HALF = 3;
    private static final int MOST_LIGHT = 100000;
    private static final int MOST_RAYS = 100;
    private static final int MOST_LINE = 1000000, MOST_ERROR = 10000;
    private static final int MOST_A = 1000000, MOST_B = 100000;
    private static final int MOST_START = 1000000, MOST_STEP = 100000;
    private static final int MOST_MATCHED = 9, MOST_MATCHES = 200;
    private static final int MOST_PLACE = 2000, MOST_SHIFT = 19, MOST_BEST = 8;
    private static final int TOLD_KINDS = 8;
    private static final int WAVE_UNKNOWN = -2000000000;
    private static final int WAVE_OUTSIDE = -2000000001;
    private static final int WAVE_STATE = -2000000002;
    private static final int BEST_UNKNOWN = -100, BEST_EMPTY = -101;

    /** A board of counts; its row of cells is made once and used again by every later board. */
    private static final class Plate {
        boolean lost = true;
        int lane;
        int w;
        int h;
        final int[] counts = new int[MOST_SIDE * MOST_SIDE];

        void renew(int newLane, int newW, int newH) {
            lost = false;
            lane = newLane;
            w = newW;
            h = newH;
            Arrays.fill(counts, 0);
        }

        boolean holds(int x, int y) {
            return x >= 0 && x < w && y >= 0 && y < h;
        }

        int at(int x, int y) {
            return holds(x, y) ? counts[y * MOST_SIDE + x] : 0;
        }

        void set(int x, int y, int v) {
            if (holds(x, y)) {
                counts[y * MOST_SIDE + x] = castToLane(v, lane);
            }
        }

        long lightAt(int x, int y) {
            return Math.max(0, Math.min(MOST_LIGHT, at(x, y)));
        }

        boolean alike(Plate other) {
            return w == other.w && h == other.h;
        }
    }

    /** A straight law from places to waves, and how many peaks it fitted when it was found. */
    private static final class Law {
        boolean is;
        int a;
        int b;
        int fitted;

        void become(int newA, int newB, int newFitted) {
            is = true;
            a = newA;
            b = newB;
            fitted = newFitted;
        }

        void drop() {
            is = false;
            a = 0;
            b = 0;
            fitted = 0;
        }

        boolean losesTo(int otherA, int otherB, int otherFitted) {
            if (!is || otherFitted != fitted) {
                return !is || otherFitted > fitted;
            }
            return otherB < b || (otherB == b && otherA < a);
        }
    }

    /** A slanting band with the row that was drawn from it. */
    private static final class Comb {
        int a;
        int b;
        int r;
        int columns;
        final long[] numbers = new long[MOST_SIDE];
        final Law law = new Law();

        int middleRow(int x, int w) {
            int middle = a;
            if (w > 1) {
                middle += Math.floorDiv((b - a) * x, w - 1);
            }
            return Math.floorDiv(middle + 8, 16);
        }

        int leastRow(int x, Plate plate) {
            return Math.max(0, middleRow(x, plate.w) - r);
        }

        int greatestRow(int x, Plate plate) {
            return Math.min(plate.h - 1, middleRow(x, plate.w) + r);
        }

        boolean has(int x) {
            return x >= 0 && x < columns && x < numbers.length;
        }

        long at(int x) {
            return has(x) ? numbers[x] : 0;
        }

        boolean isPeak(int x, long least) {
            return at(x) > at(x - 1) && at(x) >= at(x + 1) && at(x) >= least;
        }

        int placeOfPeak(int x) {
            long sum = at(x - 1) + at(x) + at(x + 1);
            if (sum <= 0) {
                return 64 * x;
            }
            return (int) (64 * x + Math.floorDiv(64 * (at(x + 1) - at(x - 1)), sum));
        }
    }

    /** The sums of one column over the rows that count. */
    private static final class Sums {
        int rows;
        long light;
        long flat;
        long squares;
        long products;

        void empty() {
            rows = 0;
            light = 0;
            flat = 0;
            squares = 0;
            products = 0;
        }

        void take(long s, long f) {
            rows++;
            light += s;
            flat += f;
            squares += f * f;
            products += f * s;
        }

        long quotient() {
            return squares > 0 ? Math.floorDiv(products * flat, squares) : 0;
        }
    }

    private final Plate[] plates = new Plate[MOST_PLATES];
    private final boolean[] badCells = new boolean[MOST_SIDE * MOST_SIDE];
    private final Comb[] combs = new Comb[MOST_COMBS];
    private int combCount;
    private final int[] lines = new int[MOST_LINES];
    private int lineCount;
    private final long[] grid = new long[MOST_WAVES];
    private int gridCount;
    private int seenNumber;
    private int latestCause;
    private final int[] causeCounts = new int[UNLIKE + 1];
    private int matchesDone;
    private final int[] places = new int[MOST_SIDE];
    private final Sums sums = new Sums();
    private final Law bestLaw = new Law();

    public CombedLight() {
        for (int p = 0; p < MOST_PLATES; p++) {
            plates[p] = new Plate();
        }
        for (int c = 0; c < MOST_COMBS; c++) {
            combs[c] = new Comb();
        }
    }

    // ---- plates

    public int plate(int p, int lane, int w, int h) {
        Plate plate = plateOf(p);
        if (plate == null) {
            return UNKNOWN;
        }
        if (!isLane(lane) || w == 0 || w > MOST_SIDE || h == 0 || h > MOST_SIDE) {
            return OUTSIDE;
        }
        if (w < 0 || h < 0) {
            return caused(SIZE);
        }
        plate.renew(lane, w, h);
        return w;
    }

    public int put(int p, int lane, int x, int y, int v) {
        Plate plate = plateOf(p);
        if (plate == null) {
            return UNKNOWN;
        }
        if (!isLane(lane)) {
            return OUTSIDE;
        }
        if (plate.lost) {
            return caused(NULL);
        }
        if (plate.lane != lane) {
            return caused(CAST);
        }
        if (!plate.holds(x, y)) {
            return caused(INDEX);
        }
        plate.set(x, y, v);
        return 1;
    }

    public int copy(int s, int t) {
        Plate from = plateOf(s);
        Plate to = plateOf(t);
        if (from == null || to == null) {
            return UNKNOWN;
        }
        if (from.lost || to.lost) {
            return caused(NULL);
        }
        if (from.lane != to.lane) {
            return caused(CAST);
        }
        if (!from.alike(to)) {
            return caused(UNLIKE);
        }
        for (int y = 0; y < to.h; y++) {
            for (int x = 0; x < to.w; x++) {
                to.set(x, y, from.at(x, y));
            }
        }
        return 1;
    }

    public int less(int s, int t) {
        Plate from = plateOf(s);
        Plate to = plateOf(t);
        if (from == null || to == null) {
            return UNKNOWN;
        }
        if (from.lost || to.lost) {
            return caused(NULL);
        }
        if (!from.alike(to)) {
            return caused(UNLIKE);
        }
        for (int y = 0; y < to.h; y++) {
            for (int x = 0; x < to.w; x++) {
                to.set(x, y, to.at(x, y) - from.at(x, y));
            }
        }
        return 1;
    }

    public int lose(int p) {
        Plate plate = plateOf(p);
        if (plate == null) {
            return UNKNOWN;
        }
        if (plate.lost) {
            return caused(NULL);
        }
        plate.lost = true;
        return 1;
    }

    public int bad(int x, int y, boolean is) {
        if (!isCell(x, y)) {
            return OUTSIDE;
        }
        int was = badCells[y * MOST_SIDE + x] ? 1 : 0;
        badCells[y * MOST_SIDE + x] = is;
        return was;
    }

    public int look(int p, int x, int y) {
        Plate plate = plateOf(p);
        if (plate == null) {
            return UNKNOWN;
        }
        if (plate.lost) {
            return caused(NULL);
        }
        if (!plate.holds(x, y)) {
            return caused(INDEX);
        }
        seenNumber = plate.at(x, y);
        return 1;
    }

    // ---- combs

    public int comb(int a, int b, int r) {
        if (!within(a, 0, MOST_MIDDLE) || !within(b, 0, MOST_MIDDLE) || !within(r, 0, MOST_HALF)) {
            return OUTSIDE;
        }
        if (combCount >= MOST_COMBS) {
            return FULL;
        }
        Comb comb = combs[combCount];
        comb.a = a;
        comb.b = b;
        comb.r = r;
        combCount++;
        return combCount - 1;
    }

    public int told(int c, int what) {
        Comb comb = combOf(c);
        if (comb == null) {
            return UNKNOWN;
        }
        if (!within(what, 0, TOLD_KINDS - 1)) {
            return OUTSIDE;
        }
        return fact(comb, what);
    }

    public int band(int c, int p, int x, int side) {
        Comb comb = combOf(c);
        Plate plate = plateOf(p);
        if (comb == null || plate == null) {
            return UNKNOWN;
        }
        if (side != 0 && side != 1) {
            return OUTSIDE;
        }
        if (plate.lost) {
            return caused(NULL);
        }
        if (!within(x, 0, plate.w - 1)) {
            return caused(INDEX);
        }
        int least = comb.leastRow(x, plate);
        int greatest = comb.greatestRow(x, plate);
        if (least > greatest) {
            seenNumber = NONE;
        } else {
            seenNumber = side == 0 ? least : greatest;
        }
        return 1;
    }

    public int trace(int c, int p) {
        Comb comb = combOf(c);
        Plate plate = plateOf(p);
        if (comb == null || plate == null) {
            return UNKNOWN;
        }
        if (plate.lost) {
            return caused(NULL);
        }
        // Both are found ahead of either change: with one column the right one hangs on a, too.
        int left = middleOfLight(comb, plate, 0);
        int right = middleOfLight(comb, plate, plate.w - 1);
        if (left != NONE) {
            comb.a = left;
        }
        if (right != NONE) {
            comb.b = right;
        }
        return 1;
    }

    public int draw(int c, int s, int f, int k) {
        Comb comb = combOf(c);
        Plate light = plateOf(s);
        Plate flat = plateOf(f);
        if (comb == null || light == null || flat == null) {
            return UNKNOWN;
        }
        if (!within(k, 0, MOST_RAYS)) {
            return OUTSIDE;
        }
        if (light.lost || flat.lost) {
            return caused(NULL);
        }
        if (!light.alike(flat)) {
            return caused(UNLIKE);
        }
        comb.columns = light.w;
        for (int x = 0; x < comb.columns && x < comb.numbers.length; x++) {
            comb.numbers[x] = drawnNumber(comb, light, flat, x, k);
        }
        comb.law.drop();
        return comb.columns;
    }

    public long number(int c, int x) {
        Comb comb = combOf(c);
        if (comb == null) {
            return UNKNOWN;
        }
        return comb.has(x) ? comb.at(x) : NONE;
    }

    // ---- peaks, lines, laws

    public int peaks(int c, long t) {
        Comb comb = combOf(c);
        if (comb == null) {
            return UNKNOWN;
        }
        if (t < 1) {
            return OUTSIDE;
        }
        return findPlaces(comb, t);
    }

    public int peak(int c, long t, int k) {
        Comb comb = combOf(c);
        if (comb == null) {
            return UNKNOWN;
        }
        if (t < 1) {
            return OUTSIDE;
        }
        int found = findPlaces(comb, t);
        return within(k, 0, found - 1) ? places[k] : NONE;
    }

    public int line(int u) {
        if (!within(u, 1, MOST_LINE) || (lineCount > 0 && u <= lines[lineCount - 1])) {
            return OUTSIDE;
        }
        if (lineCount >= MOST_LINES) {
            return FULL;
        }
        lines[lineCount] = u;
        lineCount++;
        return lineCount;
    }

    public int clear() {
        int before = lineCount;
        lineCount = 0;
        return before;
    }

    public int match(int c, long t, int e) {
        Comb comb = combOf(c);
        if (comb == null) {
            return UNKNOWN;
        }
        if (t < 1 || !within(e, 0, MOST_ERROR)) {
            return OUTSIDE;
        }
        int found = findPlaces(comb, t);
        if (found > MOST_MATCHED || matchesDone >= MOST_MATCHES) {
            return FULL;
        }
        matchesDone++;
        bestLaw.drop();
        for (int i = 0; i < found; i++) {
            for (int j = i + 1; j < found; j++) {
                tryPair(i, j, found, e);
            }
        }
        if (!bestLaw.is) {
            return 0;
        }
        comb.law.become(bestLaw.a, bestLaw.b, bestLaw.fitted);
        return bestLaw.fitted;
    }

    public int law(int c, int a, int b) {
        Comb comb = combOf(c);
        if (comb == null) {
            return UNKNOWN;
        }
        if (!within(a, -MOST_A, MOST_A) || !within(b, 1, MOST_B)) {
            return OUTSIDE;
        }
        if (comb.columns == 0) {
            return STATE;
        }
        comb.law.become(a, b, 0);
        return 1;
    }

    public int wave(int c, int z) {
        Comb comb = combOf(c);
        if (comb == null) {
            return WAVE_UNKNOWN;
        }
        if (!within(z, 0, MOST_PLACE)) {
            return WAVE_OUTSIDE;
        }
        if (!comb.law.is) {
            return WAVE_STATE;
        }
        return (int) waveAt(comb.law.a, comb.law.b, z);
    }

    // ---- rows joined, shifts

    public int join(int g, int d, int n) {
        if (!within(g, -MOST_START, MOST_START) || !within(d, 1, MOST_STEP) || !within(n, 1, MOST_WAVES)) {
            return OUTSIDE;
        }
        if (lawCount() == 0) {
            return STATE;
        }
        int held = 0;
        for (int k = 0; k < n; k++) {
            if (joinAt(k, g + (long) d * k)) {
                held++;
            }
        }
        gridCount = n;
        return held;
    }

    public long joined(int k) {
        return within(k, 0, gridCount - 1) ? grid[k] : NONE;
    }

    public long shift(int c, int d, int s) {
        Comb first = combOf(c);
        Comb second = combOf(d);
        if (first == null || second == null) {
            return UNKNOWN;
        }
        if (!within(s, -MOST_SHIFT, MOST_SHIFT)) {
            return OUTSIDE;
        }
        return crossSum(first, second, s);
    }

    public int best(int c, int d) {
        Comb first = combOf(c);
        Comb second = combOf(d);
        if (first == null || second == null) {
            return BEST_UNKNOWN;
        }
        if (first.columns == 0 || second.columns == 0) {
            return BEST_EMPTY;
        }
        int found = 0;
        // Least size first, then the lesser: of like sums the one met first stays.
        for (int size = 1; size <= MOST_BEST; size++) {
            found = betterShift(first, second, found, -size);
            found = betterShift(first, second, found, size);
        }
        return found;
    }

    // ---- what is told

    public int seen() {
        return seenNumber;
    }

    public int cause() {
        return latestCause;
    }

    public int causes(int c) {
        return within(c, NULL, UNLIKE) ? causeCounts[c] : OUTSIDE;
    }

    public int count(int what) {
        switch (what) {
            case 0:
                return plateCount();
            case 1:
                return combCount;
            case 2:
                return lineCount;
            case 3:
                return badCount();
            case 4:
                return lawCount();
            case 5:
                return matchesDone;
            default:
                return OUTSIDE;
        }
    }

    public long digest() {
        long h = 113;
        for (int p = 0; p < MOST_PLATES; p++) {
            h = digestPlate(h, plates[p]);
        }
        for (int i = 0; i < badCells.length; i++) {
            if (badCells[i]) {
                h = mix(h, i);
            }
        }
        for (int c = 0; c < combCount; c++) {
            h = digestComb(h, combs[c]);
        }
        for (int i = 0; i < lineCount; i++) {
            h = mix(h, lines[i]);
        }
        h = mix(h, seenNumber);
        return mix(h, matchesDone);
    }

    // ---- what the calls share

    private static boolean within(int v, int least, int greatest) {
        return v >= least && v <= greatest;
    }

    private static boolean isLane(int lane) {
        return within(lane, BYTE_LANE, INT_LANE);
    }

    private static boolean isCell(int x, int y) {
        return within(x, 0, MOST_SIDE - 1) && within(y, 0, MOST_SIDE - 1);
    }

    private static int castToLane(int v, int lane) {
        if (lane == BYTE_LANE) {
            return (byte) v;
        }
        return lane == SHORT_LANE ? (short) v : v;
    }

    private Plate plateOf(int p) {
        return within(p, 0, MOST_PLATES - 1) ? plates[p] : null;
    }

    private Comb combOf(int c) {
        return within(c, 0, combCount - 1) ? combs[c] : null;
    }

    private int caused(int cause) {
        latestCause = cause;
        causeCounts[cause]++;
        return CAUSE_BASE - cause;
    }

    private boolean isBad(int x, int y) {
        return isCell(x, y) && badCells[y * MOST_SIDE + x];
    }

    private static int fact(Comb comb, int what) {
        switch (what) {
            case 0:
                return comb.a;
            case 1:
                return comb.b;
            case 2:
                return comb.r;
            case 3:
                return comb.columns;
            case 4:
                return comb.law.is ? 1 : 0;
            case 5:
                return comb.law.a;
            case 6:
                return comb.law.b;
            default:
                return comb.law.fitted;
        }
    }

    // ---- tracing and drawing

    private int middleOfLight(Comb comb, Plate plate, int x) {
        long light = 0;
        long moment = 0;
        int greatest = comb.greatestRow(x, plate);
        for (int y = comb.leastRow(x, plate); y <= greatest; y++) {
            if (!isBad(x, y)) {
                light += plate.lightAt(x, y);
                moment += plate.lightAt(x, y) * (16 * y);
            }
        }
        return light > 0 ? (int) Math.floorDiv(moment, light) : NONE;
    }

    private long drawnNumber(Comb comb, Plate light, Plate flat, int x, int k) {
        sumColumn(comb, light, flat, x, NONE);
        if (k > 0 && sums.rows >= 3) {
            int ray = rayRow(comb, light, flat, x, k);
            if (ray != NONE) {
                sumColumn(comb, light, flat, x, ray);
            }
        }
        return sums.quotient();
    }

    private void sumColumn(Comb comb, Plate light, Plate flat, int x, int without) {
        sums.empty();
        int greatest = comb.greatestRow(x, flat);
        for (int y = comb.leastRow(x, flat); y <= greatest; y++) {
            if (y != without && counts(flat, x, y)) {
                sums.take(light.lightAt(x, y), flat.lightAt(x, y));
            }
        }
    }

    private boolean counts(Plate flat, int x, int y) {
        return !isBad(x, y) && flat.lightAt(x, y) > 0;
    }

    private int rayRow(Comb comb, Plate light, Plate flat, int x, int k) {
        int row = NONE;
        long most = 0;
        int greatest = comb.greatestRow(x, flat);
        for (int y = comb.leastRow(x, flat); y <= greatest; y++) {
            if (counts(flat, x, y)) {
                long excess = light.lightAt(x, y) * sums.flat - flat.lightAt(x, y) * sums.light;
                if (row == NONE || excess > most) {
                    row = y;
                    most = excess;
                }
            }
        }
        if (row == NONE || most <= k * flat.lightAt(x, row) * sums.light) {
            return NONE;
        }
        return row;
    }

    // ---- peaks and laws

    private int findPlaces(Comb comb, long least) {
        int found = 0;
        for (int x = 1; x < comb.columns - 1 && found < places.length; x++) {
            if (comb.isPeak(x, least)) {
                places[found] = comb.placeOfPeak(x);
                found++;
            }
        }
        return found;
    }

    private static long waveAt(long a, long b, int z) {
        return a + Math.floorDiv(b * z, 64L);
    }

    private void tryPair(int i, int j, int found, int e) {
        long gap = places[j] - places[i];
        if (gap <= 0) {
            return;
        }
        for (int u = 0; u < lineCount; u++) {
            for (int v = u + 1; v < lineCount; v++) {
                long b = Math.floorDiv(64L * (lines[v] - lines[u]), gap);
                // Rounded before it is taken off, so that the law's own first peak gets just its line.
                long a = lines[u] - Math.floorDiv(b * places[i], 64L);
                if (b >= 1 && b <= MOST_B && a >= -MOST_A && a <= MOST_A) {
                    offer((int) a, (int) b, found, e);
                }
            }
        }
    }

    private void offer(int a, int b, int found, int e) {
        int fitted = 0;
        for (int i = 0; i < found; i++) {
            if (nearLine(waveAt(a, b, places[i]), e)) {
                fitted++;
            }
        }
        if (fitted >= 2 && bestLaw.losesTo(a, b, fitted)) {
            bestLaw.become(a, b, fitted);
        }
    }

    private boolean nearLine(long wave, int e) {
        for (int i = 0; i < lineCount; i++) {
            if (Math.abs(lines[i] - wave) <= e) {
                return true;
            }
        }
        return false;
    }

    // ---- joining and shifts

    private boolean joinAt(int k, long wave) {
        long weighted = 0;
        long weights = 0;
        for (int c = 0; c < combCount; c++) {
            int x = columnAt(combs[c], wave);
            if (x != NONE) {
                long number = combs[c].at(x);
                weighted += number * (number + 1);
                weights += number + 1;
            }
        }
        grid[k] = weights > 0 ? Math.floorDiv(weighted, weights) : 0;
        return weights > 0;
    }

    private static int columnAt(Comb comb, long wave) {
        if (!comb.law.is) {
            return NONE;
        }
        for (int x = comb.columns - 1; x >= 0; x--) {
            long own = waveAt(comb.law.a, comb.law.b, 64 * x);
            if (own <= wave) {
                return comb.has(x + 1) || own == wave ? x : NONE;
            }
        }
        return NONE;
    }

    private static int betterShift(Comb first, Comb second, int found, int other) {
        return crossSum(first, second, other) > crossSum(first, second, found) ? other : found;
    }

    private static long crossSum(Comb first, Comb second, int s) {
        long sum = 0;
        for (int x = 0; x < first.columns; x++) {
            if (second.has(x + s)) {
                sum += first.at(x) * second.at(x + s);
            }
        }
        return sum;
    }

    // ---- counts and the digest

    private int plateCount() {
        int held = 0;
        for (int p = 0; p < MOST_PLATES; p++) {
            if (!plates[p].lost) {
                held++;
            }
        }
        return held;
    }

    private int badCount() {
        int held = 0;
        for (int i = 0; i < badCells.length; i++) {
            if (badCells[i]) {
                held++;
            }
        }
        return held;
    }

    private int lawCount() {
        int held = 0;
        for (int c = 0; c < combCount; c++) {
            if (combs[c].law.is) {
                held++;
            }
        }
        return held;
    }

    private static long mix(long h, long number) {
        return 31 * h + number;
    }

    private static long digestPlate(long before, Plate plate) {
        if (plate.lost) {
            return mix(before, -1);
        }
        long h = mix(mix(mix(before, plate.lane), plate.w), plate.h);
        for (int y = 0; y < plate.h; y++) {
            for (int x = 0; x < plate.w; x++) {
                h = mix(h, plate.at(x, y));
            }
        }
        return h;
    }

    private static long digestComb(long before, Comb comb) {
        long h = before;
        for (int what = 0; what < TOLD_KINDS; what++) {
            h = mix(h, fact(comb, what));
        }
        for (int x = 0; x < comb.columns; x++) {
            h = mix(h, comb.at(x));
        }
        return h;
    }
}

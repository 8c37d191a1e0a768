import java.math.BigInteger;
import java.util.ArrayList;
import java.util.List;
import java.util.TreeMap;
import java.util.TreeSet;

/** The document once more, in the plainest way and with numbers of any size, to hold the class against. */
final class Model {
    private static final class Board {
        int lane;
        int w;
        int h;
        TreeMap<Integer, Integer> counts = new TreeMap<>();

        int at(int x, int y) {
            return counts.getOrDefault(100 * y + x, 0);
        }

        void put(int x, int y, int v) {
            counts.put(100 * y + x, lane == 0 ? (int) (byte) v : lane == 1 ? (int) (short) v : v);
        }

        boolean has(int x, int y) {
            return 0 <= x && x < w && 0 <= y && y < h;
        }

        int light(int x, int y) {
            return at(x, y) < 0 ? 0 : at(x, y) > 100000 ? 100000 : at(x, y);
        }
    }

    private static final class Tooth {
        int a;
        int b;
        int r;
        List<BigInteger> row = new ArrayList<>();
        long[] law;
    }

    private final Board[] boards = new Board[6];
    private final TreeSet<Integer> badCells = new TreeSet<>();
    private final List<Tooth> teeth = new ArrayList<>();
    private final List<Integer> told = new ArrayList<>();
    private List<BigInteger> joined = new ArrayList<>();
    private final int[] causes = new int[6];
    private int cause;
    private int seen;
    private int done;

    private static BigInteger big(long v) {
        return BigInteger.valueOf(v);
    }

    private static BigInteger down(BigInteger n, BigInteger d) {
        BigInteger[] parts = n.divideAndRemainder(d);
        return parts[1].signum() * d.signum() < 0 ? parts[0].subtract(BigInteger.ONE) : parts[0];
    }

    private static long down(long n, long d) {
        return down(big(n), big(d)).longValueExact();
    }

    private int causeOf(int c) {
        cause = c;
        causes[c]++;
        return -10 - c;
    }

    private static boolean no(int i, int size) {
        return i < 0 || i >= size;
    }

    long call(String name, long[] v) {
        int[] i = new int[v.length];
        for (int k = 0; k < v.length; k++) {
            i[k] = (int) v[k];
        }
        switch (name) {
            case "plate": return plate(i[0], i[1], i[2], i[3]);
            case "put": return put(i[0], i[1], i[2], i[3], i[4]);
            case "copy": return copyOrLess(i[0], i[1], true);
            case "less": return copyOrLess(i[0], i[1], false);
            case "lose": return lose(i[0]);
            case "bad": return bad(i[0], i[1], i[2] != 0);
            case "look": return look(i[0], i[1], i[2]);
            case "comb": return comb(i[0], i[1], i[2]);
            case "told": return no(i[0], teeth.size()) ? -101 : no(i[1], 8) ? -102 : fact(teeth.get(i[0]), i[1]);
            case "band": return band(i[0], i[1], i[2], i[3]);
            case "trace": return trace(i[0], i[1]);
            case "draw": return draw(i[0], i[1], i[2], i[3]);
            case "number": return number(i[0], i[1]);
            case "peaks": return no(i[0], teeth.size()) ? -101 : v[1] < 1 ? -102 : places(i[0], v[1]).size();
            case "peak": return peak(i[0], v[1], i[2]);
            case "line": return line(i[0]);
            case "clear": return clear();
            case "match": return match(i[0], v[1], i[2]);
            case "law": return law(i[0], i[1], i[2]);
            case "wave": return wave(i[0], i[1]);
            case "join": return join(i[0], i[1], i[2]);
            case "joined": return no(i[0], joined.size()) ? -1 : joined.get(i[0]).longValueExact();
            case "shift": return shift(i[0], i[1], i[2]);
            case "best": return best(i[0], i[1]);
            case "seen": return seen;
            case "cause": return cause;
            case "causes": return i[0] < 1 || i[0] > 5 ? -102 : causes[i[0]];
            case "count": return count(i[0]);
            default: return digest();
        }
    }

    private long plate(int p, int lane, int w, int h) {
        if (no(p, 6)) return -101;
        if (no(lane, 3) || w == 0 || w > 20 || h == 0 || h > 20) return -102;
        if (w < 0 || h < 0) return causeOf(3);
        boards[p] = new Board();
        boards[p].lane = lane;
        boards[p].w = w;
        boards[p].h = h;
        return w;
    }

    private long put(int p, int lane, int x, int y, int v) {
        if (no(p, 6)) return -101;
        if (no(lane, 3)) return -102;
        if (boards[p] == null) return causeOf(1);
        if (boards[p].lane != lane) return causeOf(4);
        if (!boards[p].has(x, y)) return causeOf(2);
        boards[p].put(x, y, v);
        return 1;
    }

    private long copyOrLess(int s, int t, boolean copy) {
        if (no(s, 6) || no(t, 6)) return -101;
        Board from = boards[s];
        Board to = boards[t];
        if (from == null || to == null) return causeOf(1);
        if (copy && from.lane != to.lane) return causeOf(4);
        if (from.w != to.w || from.h != to.h) return causeOf(5);
        for (int y = 0; y < to.h; y++) {
            for (int x = 0; x < to.w; x++) {
                long v = copy ? from.at(x, y) : (long) to.at(x, y) - from.at(x, y);
                to.put(x, y, (int) v);
            }
        }
        return 1;
    }

    private long lose(int p) {
        if (no(p, 6)) return -101;
        if (boards[p] == null) return causeOf(1);
        boards[p] = null;
        return 1;
    }

    private long bad(int x, int y, boolean is) {
        if (no(x, 20) || no(y, 20)) return -102;
        boolean changed = is ? badCells.add(20 * y + x) : badCells.remove(20 * y + x);
        return is != changed ? 1 : 0;
    }

    private long look(int p, int x, int y) {
        if (no(p, 6)) return -101;
        if (boards[p] == null) return causeOf(1);
        if (!boards[p].has(x, y)) return causeOf(2);
        seen = boards[p].at(x, y);
        return 1;
    }

    private long comb(int a, int b, int r) {
        if (no(a, 305) || no(b, 305) || no(r, 4)) return -102;
        if (teeth.size() == 4) return -104;
        Tooth tooth = new Tooth();
        tooth.a = a;
        tooth.b = b;
        tooth.r = r;
        teeth.add(tooth);
        return teeth.size() - 1;
    }

    private long fact(Tooth t, int what) {
        if (what == 0) return t.a;
        if (what == 1) return t.b;
        if (what == 2) return t.r;
        if (what == 3) return t.row.size();
        if (what == 4) return t.law == null ? 0 : 1;
        return t.law == null ? 0 : t.law[what - 5];
    }

    private List<Integer> rows(Tooth t, Board board, int x) {
        long middle = board.w == 1 ? t.a : t.a + down((long) (t.b - t.a) * x, board.w - 1);
        long m = down(middle + 8, 16);
        List<Integer> rows = new ArrayList<>();
        for (int y = 0; y < board.h; y++) {
            if (m - t.r <= y && y <= m + t.r) rows.add(y);
        }
        return rows;
    }

    private long band(int c, int p, int x, int side) {
        if (no(c, teeth.size()) || no(p, 6)) return -101;
        if (no(side, 2)) return -102;
        if (boards[p] == null) return causeOf(1);
        if (no(x, boards[p].w)) return causeOf(2);
        List<Integer> rows = rows(teeth.get(c), boards[p], x);
        seen = rows.isEmpty() ? -1 : rows.get(side == 0 ? 0 : rows.size() - 1);
        return 1;
    }

    private long trace(int c, int p) {
        if (no(c, teeth.size()) || no(p, 6)) return -101;
        if (boards[p] == null) return causeOf(1);
        Tooth t = teeth.get(c);
        long[] found = {t.a, t.b};
        for (int end = 0; end < 2; end++) {
            int x = end * (boards[p].w - 1);
            long sum = 0;
            long moment = 0;
            for (int y : rows(t, boards[p], x)) {
                long light = badCells.contains(20 * y + x) ? 0 : boards[p].light(x, y);
                sum += light;
                moment += light * 16 * y;
            }
            if (sum > 0) found[end] = down(moment, sum);
        }
        t.a = (int) found[0];
        t.b = (int) found[1];
        return 1;
    }

    private long draw(int c, int s, int f, int k) {
        if (no(c, teeth.size()) || no(s, 6) || no(f, 6)) return -101;
        if (no(k, 101)) return -102;
        if (boards[s] == null || boards[f] == null) return causeOf(1);
        if (boards[s].w != boards[f].w || boards[s].h != boards[f].h) return causeOf(5);
        Tooth t = teeth.get(c);
        List<BigInteger> row = new ArrayList<>();
        for (int x = 0; x < boards[s].w; x++) {
            row.add(drawn(t, boards[s], boards[f], x, k));
        }
        t.row = row;
        t.law = null;
        return row.size();
    }

    private BigInteger drawn(Tooth t, Board s, Board f, int x, int k) {
        List<Integer> rows = new ArrayList<>();
        for (int y : rows(t, s, x)) {
            if (!badCells.contains(20 * y + x) && f.at(x, y) > 0) rows.add(y);
        }
        if (k > 0 && rows.size() >= 3) dropRay(rows, s, f, x, k);
        BigInteger flat = big(0);
        BigInteger squares = big(0);
        BigInteger products = big(0);
        for (int y : rows) {
            BigInteger own = big(f.light(x, y));
            flat = flat.add(own);
            squares = squares.add(own.multiply(own));
            products = products.add(own.multiply(big(s.light(x, y))));
        }
        return rows.isEmpty() ? big(0) : down(products.multiply(flat), squares);
    }

    private void dropRay(List<Integer> rows, Board s, Board f, int x, int k) {
        long flat = 0;
        long light = 0;
        for (int y : rows) {
            flat += f.light(x, y);
            light += s.light(x, y);
        }
        int greatest = rows.get(0);
        for (int y : rows) {
            if (over(s, f, x, y, flat, light) > over(s, f, x, greatest, flat, light)) greatest = y;
        }
        if (over(s, f, x, greatest, flat, light) > (long) k * f.light(x, greatest) * light) {
            rows.remove(Integer.valueOf(greatest));
        }
    }

    private static long over(Board s, Board f, int x, int y, long flat, long light) {
        return s.light(x, y) * flat - f.light(x, y) * light;
    }

    private long number(int c, int x) {
        if (no(c, teeth.size())) return -101;
        Tooth t = teeth.get(c);
        return no(x, t.row.size()) ? -1 : t.row.get(x).longValueExact();
    }

    private List<Long> places(int c, long least) {
        List<BigInteger> row = teeth.get(c).row;
        List<Long> places = new ArrayList<>();
        for (int x = 1; x + 1 < row.size(); x++) {
            BigInteger left = row.get(x - 1);
            BigInteger own = row.get(x);
            BigInteger right = row.get(x + 1);
            boolean above = own.compareTo(left) > 0 && own.compareTo(right) > 0;
            boolean level = own.compareTo(left) > 0 && own.equals(right);
            if ((above || level) && own.compareTo(big(least)) >= 0) {
                BigInteger step = down(right.subtract(left).multiply(big(64)), left.add(own).add(right));
                places.add(64L * x + step.longValueExact());
            }
        }
        return places;
    }

    private long peak(int c, long t, int k) {
        if (no(c, teeth.size())) return -101;
        if (t < 1) return -102;
        List<Long> places = places(c, t);
        return no(k, places.size()) ? -1 : places.get(k);
    }

    private long line(int u) {
        if (u < 1 || u > 1000000 || (!told.isEmpty() && u <= told.get(told.size() - 1))) return -102;
        if (told.size() == 12) return -104;
        told.add(u);
        return told.size();
    }

    private long clear() {
        long before = told.size();
        told.clear();
        return before;
    }

    private long match(int c, long t, int e) {
        if (no(c, teeth.size())) return -101;
        if (t < 1 || e < 0 || e > 10000) return -102;
        List<Long> places = places(c, t);
        if (places.size() > 9 || done == 200) return -104;
        done++;
        List<long[]> laws = new ArrayList<>();
        for (long p : places) for (long q : places) for (long u : told) for (long v : told) {
            if (p < q && u < v) {
                long b = down(64 * (v - u), q - p);
                long a = u - down(b * p, 64);
                if (1 <= b && b <= 100000 && -1000000 <= a && a <= 1000000) {
                    laws.add(new long[] {a, b, fits(a, b, places, e)});
                }
            }
        }
        laws.removeIf(law -> law[2] < 2);
        laws.sort((l, m) -> l[2] != m[2] ? Long.compare(m[2], l[2])
            : l[1] != m[1] ? Long.compare(l[1], m[1]) : Long.compare(l[0], m[0]));
        if (laws.isEmpty()) return 0;
        teeth.get(c).law = laws.get(0);
        return laws.get(0)[2];
    }

    private long fits(long a, long b, List<Long> places, int e) {
        return places.stream().filter(z -> told.stream().anyMatch(u -> Math.abs(u - (a + down(b * z, 64))) <= e)).count();
    }

    private long law(int c, int a, int b) {
        if (no(c, teeth.size())) return -101;
        if (a < -1000000 || a > 1000000 || b < 1 || b > 100000) return -102;
        if (teeth.get(c).row.isEmpty()) return -103;
        teeth.get(c).law = new long[] {a, b, 0};
        return 1;
    }

    private long wave(int c, int z) {
        if (no(c, teeth.size())) return -2000000000;
        if (no(z, 2001)) return -2000000001;
        long[] law = teeth.get(c).law;
        return law == null ? -2000000002 : law[0] + down(law[1] * z, 64);
    }

    private long join(int g, int d, int n) {
        if (g < -1000000 || g > 1000000 || d < 1 || d > 100000 || n < 1 || n > 60) return -102;
        if (count(4) == 0) return -103;
        joined = new ArrayList<>();
        long held = 0;
        for (int k = 0; k < n; k++) {
            List<BigInteger> numbers = new ArrayList<>();
            for (Tooth t : teeth) {
                if (t.law != null) numberAt(t, g + (long) k * d, numbers);
            }
            BigInteger sum = big(0);
            BigInteger weights = big(0);
            for (BigInteger number : numbers) {
                BigInteger weight = number.add(big(1));
                sum = sum.add(number.multiply(weight));
                weights = weights.add(weight);
            }
            joined.add(numbers.isEmpty() ? big(0) : down(sum, weights));
            held += numbers.isEmpty() ? 0 : 1;
        }
        return held;
    }

    private static void numberAt(Tooth t, long wave, List<BigInteger> numbers) {
        for (int x = 0; x < t.row.size(); x++) {
            long own = t.law[0] + t.law[1] * x;
            boolean between = x + 1 < t.row.size() && own <= wave && wave < own + t.law[1];
            if (own == wave || between) numbers.add(t.row.get(x));
        }
    }

    private long shift(int c, int d, int s) {
        if (no(c, teeth.size()) || no(d, teeth.size())) return -101;
        if (s < -19 || s > 19) return -102;
        BigInteger sum = big(0);
        List<BigInteger> first = teeth.get(c).row;
        List<BigInteger> second = teeth.get(d).row;
        for (int x = 0; x < first.size(); x++) {
            for (int y = 0; y < second.size(); y++) {
                if (y == x + s) sum = sum.add(first.get(x).multiply(second.get(y)));
            }
        }
        return sum.longValueExact();
    }

    private long best(int c, int d) {
        if (no(c, teeth.size()) || no(d, teeth.size())) return -100;
        if (teeth.get(c).row.isEmpty() || teeth.get(d).row.isEmpty()) return -101;
        int best = -8;
        for (int s = -7; s <= 8; s++) {
            long more = shift(c, d, s) - shift(c, d, best);
            if (more > 0 || (more == 0 && Math.abs(s) < Math.abs(best))) best = s;
        }
        return best;
    }

    private long count(int what) {
        if (no(what, 6)) return -102;
        long plates = 0;
        for (Board board : boards) plates += board == null ? 0 : 1;
        long laws = teeth.stream().filter(t -> t.law != null).count();
        return new long[] {plates, teeth.size(), told.size(), badCells.size(), laws, done}[what];
    }

    private long digest() {
        List<Long> all = new ArrayList<>();
        for (Board board : boards) {
            all.add(board == null ? -1L : board.lane);
            if (board != null) {
                all.add((long) board.w);
                all.add((long) board.h);
                for (int y = 0; y < board.h; y++) for (int x = 0; x < board.w; x++) all.add((long) board.at(x, y));
            }
        }
        for (int cell : badCells) all.add((long) cell);
        for (Tooth t : teeth) {
            for (int what = 0; what < 8; what++) all.add(fact(t, what));
            for (BigInteger number : t.row) all.add(number.longValueExact());
        }
        for (int u : told) all.add((long) u);
        all.add((long) seen);
        all.add((long) done);
        long h = 113;
        for (long number : all) h = 31 * h + number;
        return h;
    }
}

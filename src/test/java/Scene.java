import java.math.BigInteger;

/** Objects with something of everything in them, and what can be told of an object without changing it. */
final class Scene {
    /** Calls that can't answer what they promise on a scene would make its tests look at nothing. */
    private static void due(String call, long got, long want) {
        if (got != want) {
            throw new IllegalStateException("the scene's " + call + " answered " + got + ", due is " + want);
        }
    }

    /**
     * Room for one COMB and one LINE is left. Plates 0 (int) and 1 (short) are of 5 columns and 3 rows, 2 (byte) of 4
     * and 3, 3 (int) of 5 and 2, 4 (int) of 3 and 5, and 5 is LOST. Comb 0 has a LAW that was found, comb 1 one that
     * was told, the ROW of comb 2 is empty. 11 LINES, two BAD CELLS, one match(), seven waves joined, one CAUSE (1).
     */
    static CombedLight open() {
        CombedLight x = new CombedLight();
        plates(x);
        due("comb", x.comb(16, 16, 0), 0);
        due("comb", x.comb(16, 16, 1), 1);
        due("comb", x.comb(5, 6, 0), 2);
        x.bad(2, 0, true);
        x.bad(19, 19, true);
        due("draw", x.draw(0, 0, 1, 0), 5);
        due("draw", x.draw(1, 0, 1, 2), 5);
        for (int i = 1; i <= 11; i++) {
            due("line", x.line(10 * i), i);
        }
        due("match", x.match(0, 1, 1), 2);
        due("law", x.law(1, 6, 7), 1);
        due("join", x.join(5, 1, 7), 6);
        due("look", x.look(0, 3, 1), 1);
        due("lose", x.lose(5), -11);
        return x;
    }

    private static void plates(CombedLight x) {
        x.plate(0, 2, 5, 3);
        x.plate(1, 1, 5, 3);
        x.plate(2, 0, 4, 3);
        x.plate(3, 2, 5, 2);
        x.plate(4, 2, 3, 5);
        int[] light = {2, 40, 1, 60, 3};
        for (int column = 0; column < 5; column++) {
            x.put(0, 2, column, 1, light[column]);
            for (int y = 0; y < 3; y++) {
                x.put(1, 1, column, y, 1);
            }
        }
        x.put(0, 2, 0, 0, 7);
        x.put(2, 0, 3, 2, -9);
        x.put(3, 2, 4, 1, 11);
        x.put(4, 2, 2, 4, 13);
    }

    /** The open scene with its fourth COMB, drawn and without a LAW, and its twelfth LINE. */
    static CombedLight full() {
        CombedLight x = open();
        due("comb", x.comb(0, 32, 1), 3);
        due("draw", x.draw(3, 0, 1, 0), 5);
        due("line", x.line(120), 12);
        return x;
    }

    /** All but cause() and causes(); the digest tells of PLATES, CELLS, COMBS, ROWS, LAWS and LINES. */
    static long[] told(CombedLight x) {
        long[] all = new long[70];
        all[0] = x.digest();
        all[1] = x.seen();
        for (int what = 0; what <= 5; what++) {
            all[2 + what] = x.count(what);
        }
        for (int k = -1; k <= 60; k++) {
            all[9 + k] = x.joined(k);
        }
        return all;
    }

    static long[] causes(CombedLight x) {
        return new long[] {x.cause(), x.causes(1), x.causes(2), x.causes(3), x.causes(4), x.causes(5)};
    }

    /** What digest() is due to answer for these numbers, with numbers of any size, wrapped at the end alone. */
    static long digestOf(long... numbers) {
        BigInteger h = BigInteger.valueOf(113);
        for (long number : numbers) {
            h = h.multiply(BigInteger.valueOf(31)).add(BigInteger.valueOf(number));
        }
        return h.longValue();
    }

    private Scene() {
    }
}

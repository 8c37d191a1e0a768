/** Keeps what was due beside what was answered, and ends a test with exit code 1 if they ever differ. */
final class Due {
    private int wrong;
    private int looked;
    private String sentence = "";
    private int lookedBefore = -1;

    /** Names the document's sentence that the answers behind it belong to; one without any answer is wrong. */
    void of(String told) {
        endSentence();
        sentence = told + " | ";
        lookedBefore = looked;
    }

    void is(String call, long got, long want) {
        looked++;
        if (got != want) {
            wrong++;
            System.out.println(sentence + call + " answered " + got + ", due is " + want);
        }
    }

    void same(String call, long[] got, long[] want) {
        is(call + ", how many", got.length, want.length);
        for (int i = 0; i < got.length && i < want.length; i++) {
            is(call + ", number " + i, got[i], want[i]);
        }
    }

    void end() {
        endSentence();
        System.out.println(looked + " answers looked at, " + wrong + " not as due");
        if (wrong != 0 || looked == 0) {
            System.exit(1);
        }
    }

    private void endSentence() {
        if (looked == lookedBefore) {
            wrong++;
            System.out.println(sentence + "no answer was looked at");
        }
    }

    /** A plate of one row of int counts. */
    static void fill(CombedLight light, int p, int... counts) {
        light.plate(p, 2, counts.length, 1);
        for (int x = 0; x < counts.length; x++) {
            light.put(p, 2, x, 0, counts[x]);
        }
    }

    /** A plate of one column of int counts. */
    static void stand(CombedLight light, int p, int... counts) {
        light.plate(p, 2, 1, counts.length);
        for (int y = 0; y < counts.length; y++) {
            light.put(p, 2, 0, y, counts[y]);
        }
    }

    /** A new comb whose row holds just these numbers (0 to 100000); uses plates 4 and 5. */
    static int row(CombedLight light, int... numbers) {
        int c = light.comb(0, 0, 0);
        redraw(light, c, numbers);
        return c;
    }

    static void redraw(CombedLight light, int c, int... numbers) {
        fill(light, 4, numbers);
        light.plate(5, 2, numbers.length, 1);
        for (int x = 0; x < numbers.length; x++) {
            light.put(5, 2, x, 0, 1);
        }
        light.draw(c, 4, 5, 0);
    }

    /** What look() finds at a place. */
    static int at(CombedLight light, int p, int x, int y) {
        if (light.look(p, x, y) != 1) {
            throw new IllegalStateException("the test looked at no place");
        }
        return light.seen();
    }
}

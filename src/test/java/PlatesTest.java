/** Promises 1 to 8: a new object, plate, put, copy, less, lose, bad, look. */
public final class PlatesTest {
    private static final Due due = new Due();
    private static final int LEAST = Integer.MIN_VALUE;
    private static final int MOST = Integer.MAX_VALUE;

    public static void main(String[] args) {
        aNewObject();
        plate();
        put();
        copy();
        less();
        lose();
        bad();
        look();
        due.end();
    }

    private static void aNewObject() {
        CombedLight x = new CombedLight();
        for (int what = 0; what <= 5; what++) {
            due.is("1: count(" + what + ")", x.count(what), 0);
        }
        for (int p = 0; p < 6; p++) {
            due.is("1: look at plate " + p, x.look(p, 0, 0), -11);
        }
        due.is("1: told(0, 0)", x.told(0, 0), CombedLight.UNKNOWN);
        due.is("1: clear()", x.clear(), 0);
        for (int y = 0; y < 20; y++) {
            for (int column = 0; column < 20; column++) {
                due.is("1: bad", x.bad(column, y, false), 0);
            }
        }
        long h = 113;
        for (int i = 0; i < 6; i++) {
            h = 31 * h - 1;
        }
        due.is("1: digest()", new CombedLight().digest(), 31 * (31 * h));
        due.is("1: seen()", new CombedLight().seen(), 0);
        due.is("1: cause()", new CombedLight().cause(), 0);
        due.is("1: joined(0)", new CombedLight().joined(0), -1);
    }

    private static void plate() {
        CombedLight x = new CombedLight();
        due.is("2: plate(0, 0, 1, 1)", x.plate(0, 0, 1, 1), 1);
        due.is("2: plate(5, 2, 20, 19)", x.plate(5, 2, 20, 19), 20);
        due.is("2: count(0)", x.count(0), 2);
        due.is("2: look(5, 19, 18)", x.look(5, 19, 18), 1);
        due.is("2: look(5, 18, 19)", x.look(5, 18, 19), -12);
        due.is("2: p above", x.plate(6, 9, 0, -1), CombedLight.UNKNOWN);
        due.is("2: p below", x.plate(-1, 9, 0, -1), CombedLight.UNKNOWN);
        due.is("2: p least", x.plate(LEAST, 0, 1, 1), CombedLight.UNKNOWN);
        due.is("2: p most", x.plate(MOST, 0, 1, 1), CombedLight.UNKNOWN);
        due.is("2: lane above, sizes below", x.plate(0, 3, -1, -1), CombedLight.OUTSIDE);
        due.is("2: lane below", x.plate(0, -1, 5, 5), CombedLight.OUTSIDE);
        due.is("2: w 0", x.plate(0, 0, 0, 5), CombedLight.OUTSIDE);
        due.is("2: h 0", x.plate(0, 0, 5, 0), CombedLight.OUTSIDE);
        due.is("2: w 21", x.plate(0, 0, 21, 5), CombedLight.OUTSIDE);
        due.is("2: h 21", x.plate(0, 0, 5, 21), CombedLight.OUTSIDE);
        due.is("2: w below, h 0", x.plate(0, 0, -1, 0), CombedLight.OUTSIDE);
        due.is("2: w below, h above", x.plate(0, 0, -1, 21), CombedLight.OUTSIDE);
        due.is("2: w above, h below", x.plate(0, 0, 21, -1), CombedLight.OUTSIDE);
        due.is("2: w 0, h below", x.plate(0, 0, 0, -1), CombedLight.OUTSIDE);
        due.is("2: no cause so far but the look", x.cause(), 2);
        due.is("2: causes(3)", x.causes(3), 0);
        due.is("2: w below", x.plate(0, 0, -1, 20), -13);
        due.is("2: h below", x.plate(0, 0, 20, -1), -13);
        due.is("2: h far below", x.plate(0, 0, 20, LEAST), -13);
        due.is("2: both below", x.plate(1, 0, -1, -1), -13);
        due.is("2: causes(3) then", x.causes(3), 4);
        due.is("2: cause()", x.cause(), 3);
        due.is("2: plates held", x.count(0), 2);
        due.is("2: plate 0 is as it was", x.look(0, 0, 0), 1);
        x.put(0, 0, 0, 0, 7);
        due.is("2: plate 0 anew", x.plate(0, 1, 2, 3), 2);
        due.is("2: its counts are new", Due.at(x, 0, 0, 0), 0);
        due.is("2: its lane is new", x.put(0, 0, 0, 0, 1), -14);
        due.is("2: its place is new", x.put(0, 1, 1, 2, 1), 1);
        x.plate(0, 1, 1, 1);
        x.plate(0, 1, 2, 3);
        due.is("2: what was hidden is gone", Due.at(x, 0, 1, 2), 0);
    }

    private static void put() {
        CombedLight x = new CombedLight();
        x.plate(0, 0, 3, 2);
        x.plate(1, 1, 3, 2);
        x.plate(2, 2, 3, 2);
        due.is("3: byte 127", putAndLook(x, 0, 0, 127), 127);
        due.is("3: byte 128", putAndLook(x, 0, 0, 128), -128);
        due.is("3: byte -129", putAndLook(x, 0, 0, -129), 127);
        due.is("3: short 32767", putAndLook(x, 1, 1, 32767), 32767);
        due.is("3: short 32768", putAndLook(x, 1, 1, 32768), -32768);
        due.is("3: int most", putAndLook(x, 2, 2, MOST), MOST);
        due.is("3: int least", putAndLook(x, 2, 2, LEAST), LEAST);
        due.is("3: other places stay", Due.at(x, 2, 1, 1), 0);
        due.is("3: p, lane", x.put(6, 3, 0, 0, 1), CombedLight.UNKNOWN);
        due.is("3: p below", x.put(-1, 3, 0, 0, 1), CombedLight.UNKNOWN);
        due.is("3: lane, lost", x.put(3, 3, 0, 0, 1), CombedLight.OUTSIDE);
        due.is("3: lane below", x.put(0, -1, 0, 0, 1), CombedLight.OUTSIDE);
        due.is("3: lost", x.put(3, 2, -1, 0, 1), -11);
        due.is("3: cast, index", x.put(0, 2, -1, 0, 1), -14);
        due.is("3: x below", x.put(0, 0, -1, 0, 1), -12);
        due.is("3: x above", x.put(0, 0, 3, 0, 1), -12);
        due.is("3: y below", x.put(0, 0, 0, -1, 1), -12);
        due.is("3: y above", x.put(0, 0, 0, 2, 1), -12);
        due.is("3: x least", x.put(0, 0, LEAST, LEAST, 1), -12);
        due.is("3: x most", x.put(0, 0, MOST, MOST, 1), -12);
        due.is("3: causes(2)", x.causes(2), 6);
        due.is("3: cause()", x.cause(), 2);
    }

    private static int putAndLook(CombedLight x, int p, int lane, int v) {
        due.is("3: put", x.put(p, lane, 2, 1, v), 1);
        return Due.at(x, p, 2, 1);
    }

    private static void copy() {
        CombedLight x = new CombedLight();
        x.plate(0, 2, 2, 3);
        x.plate(1, 2, 2, 3);
        for (int y = 0; y < 3; y++) {
            for (int column = 0; column < 2; column++) {
                x.put(0, 2, column, y, 10 * y + column + 1);
                x.put(1, 2, column, y, -5);
            }
        }
        due.is("4: copy(0, 1)", x.copy(0, 1), 1);
        for (int y = 0; y < 3; y++) {
            for (int column = 0; column < 2; column++) {
                due.is("4: copied", Due.at(x, 1, column, y), 10 * y + column + 1);
            }
        }
        x.put(0, 2, 0, 0, 99);
        due.is("4: the copy is its own", Due.at(x, 1, 0, 0), 1);
        due.is("4: onto itself", x.copy(0, 0), 1);
        due.is("4: onto itself nothing changes", Due.at(x, 0, 0, 0), 99);
        due.is("4: s above", x.copy(6, 2), CombedLight.UNKNOWN);
        due.is("4: t below", x.copy(2, -1), CombedLight.UNKNOWN);
        due.is("4: s lost", x.copy(2, 0), -11);
        due.is("4: t lost", x.copy(0, 2), -11);
        due.is("4: both lost", x.copy(3, 2), -11);
        due.is("4: causes(1)", x.causes(1), 3);
        x.plate(2, 1, 3, 3);
        due.is("4: cast ahead of unlike", x.copy(0, 2), -14);
        x.plate(2, 2, 3, 3);
        due.is("4: other w", x.copy(0, 2), -15);
        x.plate(2, 2, 2, 2);
        due.is("4: other h", x.copy(2, 0), -15);
        x.plate(2, 2, 3, 2);
        due.is("4: turned", x.copy(0, 2), -15);
        due.is("4: causes(5)", x.causes(5), 3);
        due.is("4: causes(4)", x.causes(4), 1);
    }

    private static void less() {
        CombedLight x = new CombedLight();
        x.plate(0, 2, 2, 1);
        x.plate(1, 0, 2, 1);
        x.put(0, 2, 0, 0, 100);
        x.put(0, 2, 1, 0, -100);
        x.put(1, 0, 0, 0, -100);
        x.put(1, 0, 1, 0, 3);
        due.is("5: other lanes", x.less(0, 1), 1);
        due.is("5: cast to a byte", Due.at(x, 1, 0, 0), 56);
        due.is("5: 3 less -100", Due.at(x, 1, 1, 0), 103);
        due.is("5: s stays", Due.at(x, 0, 0, 0), 100);
        x.put(0, 2, 0, 0, LEAST);
        x.put(1, 0, 0, 0, 1);
        due.is("5: less(1, 0)", x.less(1, 0), 1);
        due.is("5: an int wraps", Due.at(x, 0, 0, 0), MOST);
        due.is("5: from itself", x.less(0, 0), 1);
        due.is("5: nothing is left", Due.at(x, 0, 0, 0), 0);
        lessOfRows();
        due.is("5: s", x.less(-1, 2), CombedLight.UNKNOWN);
        due.is("5: t", x.less(2, 6), CombedLight.UNKNOWN);
        due.is("5: s lost", x.less(2, 0), -11);
        due.is("5: t lost", x.less(0, 2), -11);
        x.plate(2, 2, 2, 2);
        due.is("5: other h", x.less(0, 2), -15);
        x.plate(2, 2, 1, 1);
        due.is("5: other w", x.less(2, 0), -15);
        due.is("5: causes(5)", x.causes(5), 2);
        due.is("5: cause()", x.cause(), 5);
    }

    private static void lessOfRows() {
        CombedLight x = new CombedLight();
        Due.stand(x, 0, 1, 2, 3);
        Due.stand(x, 1, 10, 20, 30);
        due.is("5: three rows", x.less(0, 1), 1);
        for (int y = 0; y < 3; y++) {
            due.is("5: row " + y, Due.at(x, 1, 0, y), 9 * (y + 1));
        }
    }

    private static void lose() {
        CombedLight x = new CombedLight();
        x.plate(3, 1, 4, 4);
        x.put(3, 1, 1, 1, 8);
        due.is("6: lose(3)", x.lose(3), 1);
        due.is("6: count(0)", x.count(0), 0);
        due.is("6: digest as new", x.digest(), new CombedLight().digest());
        due.is("6: lose again", x.lose(3), -11);
        due.is("6: cause()", x.cause(), 1);
        due.is("6: p above", x.lose(6), CombedLight.UNKNOWN);
        due.is("6: p below", x.lose(-1), CombedLight.UNKNOWN);
        x.plate(3, 1, 4, 4);
        due.is("6: a plate anew", Due.at(x, 3, 1, 1), 0);
    }

    private static void bad() {
        CombedLight x = new CombedLight();
        due.is("7: was not", x.bad(0, 19, true), 0);
        due.is("7: was", x.bad(0, 19, true), 1);
        due.is("7: was, and no more", x.bad(0, 19, false), 1);
        due.is("7: was not then", x.bad(0, 19, false), 0);
        due.is("7: (19, 0) is another", x.bad(19, 0, true), 0);
        due.is("7: count(3)", x.count(3), 1);
        due.is("7: x below", x.bad(-1, 0, true), CombedLight.OUTSIDE);
        due.is("7: x above", x.bad(20, 0, true), CombedLight.OUTSIDE);
        due.is("7: y below", x.bad(0, -1, true), CombedLight.OUTSIDE);
        due.is("7: y above", x.bad(0, 20, true), CombedLight.OUTSIDE);
        due.is("7: far", x.bad(MOST, LEAST, true), CombedLight.OUTSIDE);
        due.is("7: count(3) then", x.count(3), 1);
        due.is("7: no cause", x.cause(), 0);
    }

    private static void look() {
        CombedLight x = new CombedLight();
        x.plate(0, 2, 2, 3);
        x.put(0, 2, 1, 2, -77);
        due.is("8: look(0, 1, 2)", x.look(0, 1, 2), 1);
        due.is("8: seen()", x.seen(), -77);
        due.is("8: p above", x.look(6, 0, 0), CombedLight.UNKNOWN);
        due.is("8: p below", x.look(-1, 0, 0), CombedLight.UNKNOWN);
        due.is("8: lost", x.look(1, 50, 0), -11);
        due.is("8: x below", x.look(0, -1, 0), -12);
        due.is("8: x above", x.look(0, 2, 0), -12);
        due.is("8: y below", x.look(0, 0, -1), -12);
        due.is("8: y above", x.look(0, 0, 3), -12);
        due.is("8: seen() stays", x.seen(), -77);
        due.is("8: causes(2)", x.causes(2), 4);
        due.is("8: a bad cell is seen", x.bad(1, 2, true) + x.look(0, 1, 2), 1);
        due.is("8: seen() of it", x.seen(), -77);
    }
}

import java.lang.reflect.InvocationTargetException;
import java.lang.reflect.Method;
import java.lang.reflect.Modifier;
import java.util.ArrayList;
import java.util.Arrays;
import java.util.Comparator;
import java.util.List;
import java.util.Random;

/** Runs of calls with seeds of their own, held against the model; wild arguments must never throw. */
public final class ModelTest {
    private static final int RUNS = 400;
    private static final int CALLS = 512;
    private static final long[] WILD = {Integer.MIN_VALUE, Integer.MAX_VALUE, -1, 0, 1, 20, 21, 304, 1000000};
    private static final long[] COUNTS = {0, 0, 1, 2, 3, 7, 50, 100, 255, 9000, 99999, 100001, -1, -300, 2000000000};

    private final Random random;
    private final CombedLight light = new CombedLight();
    private final Model model = new Model();
    private final List<Method> methods = new ArrayList<>();
    private int side;
    private int wrong;
    private int calls;

    private ModelTest(long seed) {
        random = new Random(seed);
        for (Method method : CombedLight.class.getDeclaredMethods()) {
            if (Modifier.isPublic(method.getModifiers())) {
                methods.add(method);
            }
        }
        methods.sort(Comparator.comparing(Method::getName));
        side = 1 + random.nextInt(20);
    }

    public static void main(String[] args) throws Exception {
        int wrong = 0;
        for (int seed = 0; seed < RUNS && wrong < 20; seed++) {
            ModelTest test = new ModelTest(seed);
            test.run(seed % 4 == 3);
            wrong += test.wrong;
        }
        System.out.println(wrong == 0 ? RUNS + " runs are as the model's" : "not as the model's");
        if (wrong != 0) {
            System.exit(1);
        }
    }

    private void run(boolean wild) throws Exception {
        if (!wild) {
            setUp();
        }
        while (calls < CALLS - 1 && wrong == 0) {
            Method method = methods.get(random.nextInt(methods.size()));
            Class<?>[] types = method.getParameterTypes();
            long[] arguments = new long[types.length];
            for (int i = 0; i < types.length; i++) {
                arguments[i] = wild || random.nextInt(60) == 0 ? wild() : likely(method.getName(), i);
            }
            hold(method, arguments);
        }
        hold(named("digest"));
    }

    /** Plates with light, combs with rows and lines, so that the calls behind have something to find. */
    private void setUp() throws Exception {
        int h = 1 + random.nextInt(7);
        int w = Math.max(1, Math.min(side, 120 / h));
        side = w;
        for (int p = 0; p < 2; p++) {
            hold(named("plate"), p, 2, w, h);
            for (int y = 0; y < h; y++) {
                for (int x = 0; x < w; x++) {
                    hold(named("put"), p, 2, x, y, COUNTS[random.nextInt(p == 0 ? COUNTS.length : 9)]);
                }
            }
        }
        int combs = 1 + random.nextInt(4);
        for (int c = 0; c < combs; c++) {
            hold(named("comb"), random.nextInt(16 * h), random.nextInt(16 * h), random.nextInt(4));
            hold(named("draw"), c, 0, 1, random.nextInt(3));
        }
        int u = 0;
        for (int i = 0; i < 5; i++) {
            u += 1 + random.nextInt(40);
            hold(named("line"), u);
        }
    }

    private Method named(String name) {
        for (Method method : methods) {
            if (method.getName().equals(name)) {
                return method;
            }
        }
        throw new IllegalStateException(name);
    }

    private long wild() {
        int kind = random.nextInt(3);
        return kind == 0 ? random.nextInt() : kind == 1 ? WILD[random.nextInt(WILD.length)] : random.nextInt(8);
    }

    private long likely(String name, int i) {
        switch (name) {
            case "plate": return new long[] {2 + random.nextInt(4), random.nextInt(3), size(), size()}[i];
            case "put": return new long[] {random.nextInt(3), random.nextInt(3), at(), random.nextInt(7),
                COUNTS[random.nextInt(COUNTS.length)]}[i];
            case "lose": return 2 + random.nextInt(4);
            case "bad": return i == 2 ? random.nextInt(3) / 2 : i == 0 ? at() : random.nextInt(7);
            case "look": return i == 0 ? random.nextInt(4) : random.nextInt(7);
            case "comb": return i == 2 ? random.nextInt(4) : random.nextInt(100);
            case "told": return i == 0 ? random.nextInt(4) : random.nextInt(8);
            case "band": return new long[] {random.nextInt(4), random.nextInt(3), at(), random.nextInt(2)}[i];
            case "draw": return new long[] {random.nextInt(4), random.nextInt(2), random.nextInt(2), random.nextInt(4)}[i];
            case "number": return i == 0 ? random.nextInt(4) : at();
            case "peaks": return i == 0 ? random.nextInt(4) : 1 + random.nextInt(20);
            case "peak":
            case "match": return i == 0 ? random.nextInt(4) : i == 1 ? 1 + random.nextInt(20) : random.nextInt(6);
            case "line": return 1 + random.nextInt(300);
            case "law": return new long[] {random.nextInt(4), random.nextInt(200) - 100, 1 + random.nextInt(20)}[i];
            case "wave": return i == 0 ? random.nextInt(4) : random.nextInt(2001);
            case "join": return new long[] {random.nextInt(200) - 100, 1 + random.nextInt(20), 1 + random.nextInt(60)}[i];
            case "joined": return random.nextInt(30);
            case "shift": return i < 2 ? random.nextInt(4) : random.nextInt(39) - 19;
            default: return random.nextInt(4);
        }
    }

    private long size() {
        return random.nextInt(12) - 1;
    }

    private long at() {
        return random.nextInt(side + 1);
    }

    private void hold(Method method, long... arguments) throws Exception {
        calls++;
        Object[] given = new Object[arguments.length];
        Class<?>[] types = method.getParameterTypes();
        for (int i = 0; i < given.length; i++) {
            if (types[i] == boolean.class) {
                given[i] = arguments[i] != 0;
            } else if (types[i] == long.class) {
                given[i] = arguments[i];
            } else {
                given[i] = (int) arguments[i];
            }
        }
        String call = "call " + calls + ": " + method.getName() + Arrays.toString(arguments);
        long want = model.call(method.getName(), arguments);
        try {
            long got = ((Number) method.invoke(light, given)).longValue();
            if (got != want) {
                wrong++;
                System.out.println(call + " answered " + got + ", due is " + want);
            }
        } catch (InvocationTargetException thrown) {
            wrong++;
            System.out.println(call + " threw " + thrown.getCause());
        }
    }
}

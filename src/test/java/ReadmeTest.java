import java.lang.reflect.Method;
import java.lang.reflect.Modifier;
import java.nio.file.Files;
import java.nio.file.Path;
import java.util.TreeSet;
import java.util.regex.Matcher;
import java.util.regex.Pattern;

/** README.md's own run of calls answers what is written there, and README.md tells of every call, refusal and cause. */
public final class ReadmeTest {
    private static final Due due = new Due();
    private static final Pattern STEP = Pattern.compile("(?m)^light\\.(\\w+)\\(([^)]*)\\); +// (-?\\d+)(:.*)?$");
    private static final String[] REFUSALS = {
        "NONE", "-1", "UNKNOWN", "-101", "OUTSIDE", "-102", "STATE", "-103", "FULL", "-104",
        "-2000000000", "-2000000001", "-2000000002", "-100"};
    private static final String[] CAUSES = {"NULL", "-11", "INDEX", "-12", "SIZE", "-13", "CAST", "-14", "UNLIKE", "-15"};

    public static void main(String[] args) throws Exception {
        String readme = Files.readString(Path.of("README.md"));
        run(readme);
        for (String call : calls()) {
            tells("the call " + call, readme, "(?m)^\\| `" + call + "\\([a-z, ]*\\)`");
        }
        for (String refusal : REFUSALS) {
            tells("the refusal " + refusal, readme, "(?<![\\w-])" + refusal + "(?!\\w)");
        }
        for (String cause : CAUSES) {
            tells("the cause " + cause, readme, "(?<![\\w-])" + cause + "(?!\\w)");
        }
        due.end();
    }

    private static void run(String readme) throws Exception {
        CombedLight light = new CombedLight();
        Matcher step = STEP.matcher(readme);
        int steps = 0;
        while (step.find()) {
            steps++;
            due.is(step.group(), answer(light, step.group(1), step.group(2)), Long.parseLong(step.group(3)));
        }
        due.is("lines of README.md that are no calls with answers:", readme.split("\nlight\\.").length - 1 - steps, 0);
        due.is("README.md has a run:", steps > 0 ? 1 : 0, 1);
    }

    private static long answer(CombedLight light, String name, String list) throws Exception {
        String[] given = list.isBlank() ? new String[0] : list.split(", ");
        for (Method method : CombedLight.class.getMethods()) {
            if (method.getName().equals(name) && method.getParameterCount() == given.length) {
                return ((Number) method.invoke(light, values(method, given))).longValue();
            }
        }
        throw new IllegalStateException("README.md calls " + name + "(" + list + ")");
    }

    private static Object[] values(Method method, String[] given) {
        Object[] values = new Object[given.length];
        for (int i = 0; i < given.length; i++) {
            Class<?> type = method.getParameterTypes()[i];
            if (type == boolean.class) {
                values[i] = Boolean.valueOf(given[i]);
            } else if (type == long.class) {
                values[i] = Long.valueOf(given[i]);
            } else {
                values[i] = Integer.valueOf(given[i]);
            }
        }
        return values;
    }

    private static TreeSet<String> calls() {
        TreeSet<String> names = new TreeSet<>();
        for (Method method : CombedLight.class.getDeclaredMethods()) {
            if (Modifier.isPublic(method.getModifiers())) {
                names.add(method.getName());
            }
        }
        return names;
    }

    private static void tells(String what, String readme, String pattern) {
        due.is("README.md tells of " + what + ":", Pattern.compile(pattern).matcher(readme).find() ? 1 : 0, 1);
    }
}

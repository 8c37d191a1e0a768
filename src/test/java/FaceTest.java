import java.lang.reflect.Constructor;
import java.lang.reflect.Field;
import java.lang.reflect.Member;
import java.lang.reflect.Method;
import java.lang.reflect.Modifier;
import java.nio.file.Files;
import java.nio.file.Path;
import java.util.TreeSet;
import java.util.regex.Matcher;
import java.util.regex.Pattern;

/** The document's face and no more, and those rules of LANGUAGE.md that a look at the text can tell. */
public final class FaceTest {
    private static final Due due = new Due();
    private static final String[] FACE = {
        "int plate(int,int,int,int)", "int put(int,int,int,int,int)", "int copy(int,int)", "int less(int,int)",
        "int lose(int)", "int bad(int,int,boolean)", "int look(int,int,int)", "int comb(int,int,int)",
        "int told(int,int)", "int band(int,int,int,int)", "int trace(int,int)", "int draw(int,int,int,int)",
        "long number(int,int)", "int peaks(int,long)", "int peak(int,long,int)", "int line(int)", "int clear()",
        "int match(int,long,int)", "int law(int,int,int)", "int wave(int,int)", "int join(int,int,int)",
        "long joined(int)", "long shift(int,int,int)", "int best(int,int)", "int seen()", "int cause()",
        "int causes(int)", "int count(int)", "long digest()"};
    private static final String[] RULED_OUT = {
        "\\bthrow\\b", "\\btry\\b", "\\bcatch\\b", "\\bsynchronized\\b", "\\bassert\\b", "->", "::", "\\w+Exact\\b",
        "\\bpackage\\b", "\\bSystem\\.(?!arraycopy)", "\\bprotected\\b", "\\bstatic\\s*\\{"};

    public static void main(String[] args) throws Exception {
        TreeSet<String> names = new TreeSet<>();
        TreeSet<String> face = new TreeSet<>();
        for (Method method : CombedLight.class.getDeclaredMethods()) {
            if (Modifier.isPublic(method.getModifiers())) {
                names.add(method.getName());
                face.add(shape(method));
            }
            isPublicOrPrivate(method);
        }
        for (String method : FACE) {
            due.is("the face lacks " + method + ":", face.remove(method) ? 1 : 0, 1);
        }
        due.is("the face has beside " + face + ":", face.size(), 0);
        for (Method method : CombedLight.class.getDeclaredMethods()) {
            boolean shares = Modifier.isPrivate(method.getModifiers()) && names.contains(method.getName());
            due.is("a private " + method.getName() + ":", shares ? 1 : 0, 0);
        }
        constants();
        constructors();
        text();
        due.end();
    }

    private static String shape(Method method) {
        StringBuilder parts = new StringBuilder();
        for (Class<?> type : method.getParameterTypes()) {
            parts.append(parts.length() == 0 ? "" : ",").append(type.getName());
        }
        return method.getReturnType().getName() + " " + method.getName() + "(" + parts + ")";
    }

    private static void isPublicOrPrivate(Member member) {
        int modifiers = member.getModifiers();
        boolean is = member.isSynthetic() || Modifier.isPublic(modifiers) || Modifier.isPrivate(modifiers);
        due.is(member.getName() + " is public or private:", is ? 1 : 0, 1);
    }

    private static void constants() {
        TreeSet<String> shown = new TreeSet<>();
        for (Field field : CombedLight.class.getDeclaredFields()) {
            isPublicOrPrivate(field);
            int modifiers = field.getModifiers();
            boolean free = Modifier.isStatic(modifiers) && !Modifier.isFinal(modifiers);
            due.is(field.getName() + " is static and not final:", free ? 1 : 0, 0);
            if (Modifier.isPublic(modifiers)) {
                shown.add(field.getName());
            }
        }
        due.is("constants " + shown + ":", shown.toString().equals("[FULL, NONE, OUTSIDE, STATE, UNKNOWN]") ? 1 : 0, 1);
        due.is("NONE", CombedLight.NONE, -1);
        due.is("UNKNOWN", CombedLight.UNKNOWN, -101);
        due.is("OUTSIDE", CombedLight.OUTSIDE, -102);
        due.is("STATE", CombedLight.STATE, -103);
        due.is("FULL", CombedLight.FULL, -104);
    }

    private static void constructors() {
        Constructor<?>[] all = CombedLight.class.getDeclaredConstructors();
        due.is("constructors", all.length, 1);
        due.is("its parameters", all[0].getParameterCount(), 0);
        due.is("it is public", Modifier.isPublic(all[0].getModifiers()) ? 1 : 0, 1);
        due.is("the class is final", Modifier.isFinal(CombedLight.class.getModifiers()) ? 1 : 0, 1);
        for (Class<?> inside : CombedLight.class.getDeclaredClasses()) {
            int modifiers = inside.getModifiers();
            due.is(inside.getName() + " is static:", Modifier.isStatic(modifiers) ? 1 : 0, 1);
            due.is(inside.getName() + " is public:", Modifier.isPublic(modifiers) ? 1 : 0, 0);
        }
    }

    private static void text() throws Exception {
        String source = Files.readString(Path.of("src/main/java/CombedLight.java"));
        String code = source.replaceAll("(?s)/\\*.*?\\*/", " ").replaceAll("//[^\n]*", " ");
        for (String ruledOut : RULED_OUT) {
            Matcher matcher = Pattern.compile(ruledOut).matcher(code);
            due.is("the text has " + ruledOut + ":", matcher.find() ? 1 : 0, 0);
        }
        Matcher imports = Pattern.compile("import ([^;]+);").matcher(code);
        while (imports.find()) {
            String name = imports.group(1);
            boolean known = name.equals("java.util.Arrays") || name.equals("java.util.List")
                || name.equals("java.util.ArrayList");
            due.is("import " + name + ":", known ? 1 : 0, 1);
        }
    }
}

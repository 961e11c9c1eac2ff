import java.io.IOException;
import java.lang.reflect.Field;
import java.lang.reflect.Method;
import java.lang.reflect.Modifier;
import java.nio.file.Files;
import java.nio.file.Path;
import java.util.ArrayList;
import java.util.Arrays;
import java.util.List;
import java.util.Set;
import java.util.TreeSet;
import java.util.regex.Pattern;

/** The public face as the document tells it, and what LANGUAGE.md forbids, as far as it can be seen. */
public final class FaceTest {
    private static final String[] METHODS = {
        "int letter(int)", "int blank()", "int fault()", "int party()", "int guest(int, int)", "int as(int, int)",
        "int rise(int)", "int hour()", "int hint(int)", "int back(int)", "int feed(int)", "int turn(int, int, int)",
        "int most()", "int least()", "int hire(int)", "int ends()", "int odds(int, int, int)",
        "int see(int, int, boolean)", "int forget()", "int nights(int, int, int)", "int image()", "int restore()",
        "int count(int)", "long digest()"};
    private static final String[] CONSTANTS = {"NONE", "UNKNOWN", "OUTSIDE", "STATE", "FULL"};
    private static final int[] VALUES = {-1, -101, -102, -103, -104};
    private static final String[] FORBIDDEN = {
        "->", "::", "\\btry\\b", "\\bcatch\\b", "\\bfinally\\b", "\\bthrow\\b", "\\bsynchronized\\b", "\\bassert\\b",
        "\\bimport\\b", "\\bpackage\\b", "\\bdouble\\b", "\\bfloat\\b", "\\bvar\\b", "\\bnull\\b", "\\bprotected\\b",
        "\\bstatic\\s*\\{", "\\bSystem\\.(?!arraycopy\\b)", "\\bMath\\.(?!max\\b|min\\b|abs\\b)",
        "\\bInteger\\.(?!bitCount\\b)", "Exact\\b", "\\bwhile\\b", "[^\\x0a\\x20-\\x7e]"};
    private static int wrong = 0;

    private static void check(boolean holds, String what) {
        if (!holds) {
            wrong++;
            System.out.println("not so: " + what);
        }
    }

    private static String told(Method method) {
        StringBuilder text = new StringBuilder();
        text.append(method.getReturnType().getSimpleName()).append(' ').append(method.getName()).append('(');
        String between = "";
        for (Class<?> type : method.getParameterTypes()) {
            text.append(between).append(type.getSimpleName());
            between = ", ";
        }
        return text.append(')').toString();
    }

    private static void face() throws IllegalAccessException {
        Class<?> face = GrangeParty.class;
        check(Modifier.isPublic(face.getModifiers()) && Modifier.isFinal(face.getModifiers()), "public and final");
        check(face.getDeclaredConstructors().length == 1 && face.getConstructors().length == 1, "one constructor");
        Set<String> found = new TreeSet<>();
        for (Method method : face.getDeclaredMethods()) {
            if (!Modifier.isPrivate(method.getModifiers())) {
                check(Modifier.isPublic(method.getModifiers()) && !Modifier.isStatic(method.getModifiers()),
                        "a public method: " + method);
                found.add(told(method));
            }
        }
        check(found.equals(new TreeSet<>(Arrays.asList(METHODS))), "the methods of the document: " + found);
        List<String> constants = new ArrayList<>();
        for (Field field : face.getDeclaredFields()) {
            if (!Modifier.isPrivate(field.getModifiers())) {
                constants.add(field.getName());
            }
        }
        check(constants.equals(Arrays.asList(CONSTANTS)), "the constants of the document: " + constants);
        for (int i = 0; i < CONSTANTS.length && i < constants.size(); i++) {
            try {
                check(face.getField(CONSTANTS[i]).getInt(null) == VALUES[i], CONSTANTS[i] + " is " + VALUES[i]);
            } catch (NoSuchFieldException missing) {
                check(false, CONSTANTS[i] + " is there");
            }
        }
    }

    private static void classes() {
        List<Class<?>> all = new ArrayList<>(Arrays.asList(GrangeParty.class.getDeclaredClasses()));
        check(all.size() < 12, "no more than twelve classes");
        for (Class<?> inside : all) {
            check(Modifier.isStatic(inside.getModifiers()) && !Modifier.isPublic(inside.getModifiers()),
                    "static and not public: " + inside);
        }
        Set<String> faceNames = new TreeSet<>();
        for (Method method : GrangeParty.class.getMethods()) {
            faceNames.add(method.getName());
        }
        all.add(GrangeParty.class);
        for (Class<?> one : all) {
            int fields = 0;
            for (Field field : one.getDeclaredFields()) {
                boolean isStatic = Modifier.isStatic(field.getModifiers());
                check(!isStatic || Modifier.isFinal(field.getModifiers()), "static fields are final: " + field);
                fields += isStatic ? 0 : 1;
            }
            check(fields <= 20, "no more than twenty fields: " + one);
            for (Method method : one.getDeclaredMethods()) {
                check(method.getParameterCount() <= 7, "seven parameters: " + method);
                check(Modifier.isPublic(method.getModifiers()) || !faceNames.contains(method.getName()),
                        "a name of its own: " + method);
            }
        }
    }

    private static void text() throws IOException {
        String source = Files.readString(Path.of("src/main/java/GrangeParty.java"));
        String code = source.replaceAll("(?s)/\\*.*?\\*/", "").replaceAll("//[^\n]*", "");
        for (String forbidden : FORBIDDEN) {
            check(!Pattern.compile(forbidden).matcher(code).find(), "the text is without " + forbidden);
        }
        for (String line : code.split("\n")) {
            // What is made with the object is used again, so that long runs make nothing more.
            check(!line.contains(" new ") || line.contains("final "), "made in a constructor alone: " + line.trim());
        }
    }

    public static void main(String[] args) throws Exception {
        face();
        classes();
        text();
        System.out.println(wrong == 0 ? "the face is as told" : wrong + " things are not so");
        if (wrong != 0) {
            System.exit(1);
        }
    }
}

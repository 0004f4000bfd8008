import java.lang.reflect.Constructor;
import java.lang.reflect.Field;
import java.lang.reflect.Method;
import java.lang.reflect.Modifier;
import java.nio.file.Files;
import java.nio.file.Path;
import java.util.ArrayList;
import java.util.List;
import java.util.Map;
import java.util.TreeMap;
import java.util.TreeSet;
import java.util.regex.Matcher;
import java.util.regex.Pattern;

/** The public face, and those rules of LANGUAGE.md that can be seen from outside; argument: the class's file. */
public final class FaceTest {
    private static final Due due = new Due();

    private static final Map<String, Integer> CONSTANTS = new TreeMap<>(Map.of(
            "NO_SUCH", -1, "BAD_VALUE", -2, "BAD_TEXT", -3, "TOO_MANY", -4, "NOT_POSSIBLE", -5, "NONE", -6,
            "TOLL", 0, "FINE", 1, "DIG", 2, "FIND", 3));

    private static final String[] METHODS = {
        "set(int, int)", "road(int, int)", "treasure(int)", "begin()", "claim(int, int, int)", "check(int, int, int)",
        "dig(int)", "pass()", "ofRoad(int, int, int)", "knows(int, int, int)", "player(int, int)", "place(int, int)",
        "dug(int)", "count(int)", "canBe()", "shows(int, int)", "bestShow(int)", "knownWay(int, int)", "put(long)",
        "wipe()", "fault()", "carryOut()", "undo()", "save(int)", "restore(int)"
    };

    public static void main(String[] arguments) throws Exception {
        constants();
        methods();
        constructors();
        classesInside();
        words(Path.of(arguments.length > 0 ? arguments[0] : "src/main/java/LiarMaps.java"));
        due.end("FaceTest");
    }

    private static void constants() throws Exception {
        int found = 0;
        for (Field field : LiarMaps.class.getDeclaredFields()) {
            if (Modifier.isPrivate(field.getModifiers())) {
                continue;
            }
            found++;
            int want = Modifier.PUBLIC | Modifier.STATIC | Modifier.FINAL;
            due.is("modifiers of " + field.getName(), field.getModifiers(), want);
            due.is("name " + field.getName(), CONSTANTS.containsKey(field.getName()) ? 1 : 0, 1);
            due.is(field.getName(), field.getInt(null), CONSTANTS.getOrDefault(field.getName(), 99));
        }
        due.is("number of constants", found, CONSTANTS.size());
    }

    private static void methods() {
        TreeSet<String> wanted = new TreeSet<>(List.of(METHODS));
        TreeSet<String> publicNames = new TreeSet<>();
        for (String method : METHODS) {
            publicNames.add(method.substring(0, method.indexOf('(')));
        }
        for (Method method : LiarMaps.class.getDeclaredMethods()) {
            if (Modifier.isPrivate(method.getModifiers())) {
                due.is("private name " + method.getName(), publicNames.contains(method.getName()) ? 1 : 0, 0);
                continue;
            }
            due.is("modifiers of " + method.getName(), method.getModifiers(), Modifier.PUBLIC);
            due.is("returns int: " + method.getName(), method.getReturnType() == int.class ? 1 : 0, 1);
            due.is("method " + signature(method), wanted.remove(signature(method)) ? 1 : 0, 1);
        }
        due.is("methods that are missing: " + wanted, wanted.size(), 0);
        for (Class<?> inside : LiarMaps.class.getDeclaredClasses()) {
            for (Method method : inside.getDeclaredMethods()) {
                due.is("name inside " + method.getName(), publicNames.contains(method.getName()) ? 1 : 0, 0);
            }
        }
    }

    private static String signature(Method method) {
        List<String> types = new ArrayList<>();
        for (Class<?> type : method.getParameterTypes()) {
            types.add(type.getName());
        }
        return method.getName() + "(" + String.join(", ", types) + ")";
    }

    private static void constructors() {
        Constructor<?>[] all = LiarMaps.class.getDeclaredConstructors();
        due.is("number of constructors", all.length, 1);
        due.is("the constructor is public", all[0].getModifiers(), Modifier.PUBLIC);
        due.is("its parameters", all[0].getParameterCount(), 0);
        due.is("the class", LiarMaps.class.getModifiers(), Modifier.PUBLIC | Modifier.FINAL);
        due.is("its package", LiarMaps.class.getPackageName().length(), 0);
    }

    private static void classesInside() {
        int classes = 1;
        for (Class<?> inside : LiarMaps.class.getDeclaredClasses()) {
            classes++;
            due.is("static: " + inside, Modifier.isStatic(inside.getModifiers()) ? 1 : 0, 1);
            due.is("not public: " + inside, Modifier.isPublic(inside.getModifiers()) ? 1 : 0, 0);
            int fields = 0;
            for (Field field : inside.getDeclaredFields()) {
                boolean isStatic = Modifier.isStatic(field.getModifiers());
                fields += isStatic ? 0 : 1;
                due.is("static and not final: " + field,
                        isStatic && !Modifier.isFinal(field.getModifiers()) ? 1 : 0, 0);
            }
            due.is("fields of " + inside, fields <= 20 ? 1 : 0, 1);
        }
        due.is("classes", classes <= 12 ? 1 : 0, 1);
    }

    private static void words(Path file) throws Exception {
        String text = Files.readString(file).replaceAll("(?s)/\\*.*?\\*/", "").replaceAll("//[^\n]*", "");
        String code = text.replaceAll("'(\\\\.|[^'\\\\])'", "0");
        String forbidden = "\\b(throw|throws|try|catch|synchronized|assert|import|package|var|default\\s*->|yield"
                + "|System\\.(?!arraycopy)\\w+|Thread|Random|\\w+Exact)\\b|->|::|@";
        Matcher matcher = Pattern.compile(forbidden).matcher(code);
        while (matcher.find()) {
            due.is("LANGUAGE.md does without '" + matcher.group() + "'", 1, 0);
        }
        for (int i = 0; i < code.length(); i++) {
            if (code.charAt(i) < 9 || code.charAt(i) > 126) {
                due.is("sign " + (int) code.charAt(i), 1, 0);
            }
        }
        due.is("the file was read", code.contains("public final class LiarMaps {") ? 1 : 0, 1);
    }
}

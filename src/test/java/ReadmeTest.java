import java.lang.reflect.Method;
import java.nio.file.Files;
import java.nio.file.Path;
import java.util.regex.Matcher;
import java.util.regex.Pattern;

/** Makes each call that README.md shows, and compares its answer with the number that stands behind it there. */
public final class ReadmeTest {
    private static final Pattern CALL = Pattern.compile("maps\\.(\\w+)\\((.*?)\\); *// (-?\\d+).*");
    private static final int FEWEST_CALLS = 30;

    public static void main(String[] arguments) throws Exception {
        Due due = new Due();
        LiarMaps maps = null;
        int calls = 0;
        for (String row : Files.readAllLines(Path.of("README.md"))) {
            if (row.equals("LiarMaps maps = new LiarMaps();")) {
                maps = new LiarMaps();
            } else if (row.startsWith("maps.")) {
                Matcher call = CALL.matcher(row);
                boolean readable = call.matches() && maps != null;
                due.is("README.md, a call and its answer can be read: " + row, readable ? 1 : 0, 1);
                if (readable) {
                    long got = answer(maps, call.group(1), call.group(2));
                    due.is("README.md: " + row, got, Long.parseLong(call.group(3)));
                    calls++;
                }
            }
        }
        due.is("README.md shows calls", calls >= FEWEST_CALLS ? 1 : 0, 1);
        due.end("ReadmeTest");
    }

    private static long answer(LiarMaps maps, String name, String written) throws Exception {
        String[] values = written.isEmpty() ? new String[0] : written.split(", ");
        for (Method method : LiarMaps.class.getMethods()) {
            if (method.getName().equals(name) && method.getParameterCount() == values.length) {
                Object[] given = new Object[values.length];
                for (int i = 0; i < values.length; i++) {
                    given[i] = value(values[i], method.getParameterTypes()[i]);
                }
                return (Integer) method.invoke(maps, given);
            }
        }
        throw new IllegalArgumentException("README.md shows a call that LiarMaps has not: " + name);
    }

    private static Object value(String written, Class<?> type) throws Exception {
        if (written.startsWith("LiarMaps.")) {
            return LiarMaps.class.getField(written.substring("LiarMaps.".length())).getInt(null);
        }
        if (type == long.class) {
            return Long.decode(written.replace("L", ""));
        }
        return Integer.decode(written);
    }
}

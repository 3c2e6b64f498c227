import java.io.IOException;
import java.lang.reflect.Method;
import java.nio.file.Files;
import java.nio.file.Path;
import java.util.List;
import java.util.Set;
import java.util.TreeMap;
import java.util.TreeSet;
import java.util.regex.Matcher;
import java.util.regex.Pattern;

/** What README.md shows of the class is so. */
public final class ReadmeTests {
    private static final Pattern CALL = Pattern.compile("x\\.(\\w+)\\((.*?)\\);\\s*// (-?\\d+)(:.*)?");
    private static final Pattern NAME = Pattern.compile("`(\\w+)`");

    public static void main(String[] args) throws IOException, ReflectiveOperationException {
        List<String> lines = Files.readAllLines(Path.of("README.md"));
        TreeMap<String, Method> face = new TreeMap<>();
        for (Method m : LureTown.class.getMethods()) {
            if (m.getDeclaringClass() == LureTown.class) {
                face.put(m.getName(), m);
            }
        }
        shownCalls(lines, face);
        namedCalls(lines, face.keySet());
        Due.leave();
    }

    private static void shownCalls(List<String> lines, TreeMap<String, Method> face) throws ReflectiveOperationException {
        LureTown x = new LureTown();
        int shown = 0;
        for (String line : lines) {
            if (line.startsWith("x.")) {
                Matcher m = CALL.matcher(line);
                boolean read = m.matches() && face.containsKey(m.group(1));
                Due.is("a call with its answer: " + line, read ? 1 : 0, 1);
                if (read) {
                    Due.is(line, (Integer) face.get(m.group(1)).invoke(x, numbers(m.group(2))), Integer.parseInt(m.group(3)));
                    shown++;
                }
            }
        }
        Due.is("calls are shown", shown > 0 ? 1 : 0, 1);
    }

    private static Object[] numbers(String listed) {
        if (listed.isEmpty()) {
            return new Object[0];
        }
        String[] parts = listed.split(", ");
        Object[] numbers = new Object[parts.length];
        for (int i = 0; i < parts.length; i++) {
            numbers[i] = Integer.decode(parts[i]);
        }
        return numbers;
    }

    /** Names in the first column of the table of calls. */
    private static void namedCalls(List<String> lines, Set<String> face) {
        Set<String> named = new TreeSet<>();
        for (String line : lines) {
            if (line.startsWith("| `")) {
                Matcher m = NAME.matcher(line.substring(0, line.indexOf('|', 1)));
                while (m.find()) {
                    Due.is(m.group(1) + " is named once", named.add(m.group(1)) ? 1 : 0, 1);
                }
            }
        }
        Due.same("the calls that are named", named.toString(), new TreeSet<>(face).toString());
    }
}

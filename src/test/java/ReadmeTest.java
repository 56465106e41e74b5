import java.io.IOException;
import java.lang.reflect.InvocationTargetException;
import java.lang.reflect.Method;
import java.lang.reflect.Modifier;
import java.nio.file.Files;
import java.nio.file.Path;
import java.util.Arrays;
import java.util.Map;
import java.util.TreeMap;
import java.util.TreeSet;
import java.util.regex.Matcher;
import java.util.regex.Pattern;

/** Makes the calls of README.md's example on a new house: each must answer, or throw, what is told behind it. */
public final class ReadmeTest {
    private static final Pattern CALL =
            Pattern.compile("house\\.(\\w+)\\(([-0-9, ]+)\\);\\s*// (-?\\d+|\\w+Exception)\\b.*");

    private final Map<String, Method> face = new TreeMap<>();
    private final TreeSet<String> shown = new TreeSet<>();
    private final BillShares house = new BillShares();

    public static void main(String[] args) throws IOException {
        ReadmeTest test = new ReadmeTest();
        test.findFace();
        for (String line : Files.readAllLines(Path.of("README.md"))) {
            if (line.startsWith("house.")) {
                test.checkCall(line);
            }
        }
        Check.due("calls that README.md shows", test.face.keySet().toString(), test.shown.toString());
        Check.end();
    }

    private void findFace() {
        for (Method method : BillShares.class.getDeclaredMethods()) {
            if (Modifier.isPublic(method.getModifiers())) {
                face.put(method.getName(), method);
            }
        }
    }

    private void checkCall(String line) {
        Matcher call = CALL.matcher(line);
        boolean readable = call.matches() && face.containsKey(call.group(1));
        Check.due(line, "a call and its answer", readable ? "a call and its answer" : "something else");
        if (readable) {
            shown.add(call.group(1));
            Check.due(line, call.group(3), answer(face.get(call.group(1)), numbers(call.group(2))));
        }
    }

    private static Object[] numbers(String text) {
        return Arrays.stream(text.split(", ")).map(Integer::valueOf).toArray();
    }

    private String answer(Method method, Object[] numbers) {
        try {
            return String.valueOf(method.invoke(house, numbers));
        } catch (InvocationTargetException thrown) {
            return thrown.getCause().getClass().getSimpleName();
        } catch (IllegalAccessException | IllegalArgumentException wrong) {
            return "a call that the face has not";
        }
    }
}

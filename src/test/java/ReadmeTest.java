import java.io.IOException;
import java.lang.reflect.Method;
import java.lang.reflect.Modifier;
import java.nio.file.Files;
import java.nio.file.Path;
import java.util.regex.Matcher;
import java.util.regex.Pattern;

/** README.md shows calls with their answers: each of them, run in their order, has to answer that. */
public final class ReadmeTest {
    private static final Pattern SHOWN = Pattern.compile("beds\\.(\\w+)\\((.*)\\); *// (-?\\d+|[A-Z_]+)\\b.*");
    private static final Pattern PACKED = Pattern.compile("packed\\(\"(.*)\"\\)");
    private static final Due due = new Due("ReadmeTest");

    private ReadmeTest() {
    }

    public static void main(String[] args) throws IOException, ReflectiveOperationException {
        String readme = Files.readString(Path.of("README.md"));
        answersWhatIsShown(readme);
        tellsAllCalls(readme);
        showsHowToPack(readme);
        due.end();
    }

    private static void answersWhatIsShown(String readme) throws ReflectiveOperationException {
        ChalkBeds beds = new ChalkBeds();
        for (String line : readme.split("\n")) {
            if (!line.startsWith("beds.")) {
                continue;
            }
            Matcher shown = SHOWN.matcher(line);
            if (shown.matches()) {
                due.is(line, answer(beds, shown.group(1), shown.group(2)), number(shown.group(3)));
            } else {
                due.holds(line + " shows its answer", false);
            }
        }
    }

    private static int answer(ChalkBeds beds, String name, String arguments) throws ReflectiveOperationException {
        Matcher packed = PACKED.matcher(arguments);
        if (packed.matches()) {
            return beds.put(Texts.packed(packed.group(1)));
        }
        String[] parts = arguments.isEmpty() ? new String[0] : arguments.split(", ");
        Object[] numbers = new Object[parts.length];
        for (int i = 0; i < parts.length; i++) {
            numbers[i] = number(parts[i].replace("ChalkBeds.", ""));
        }
        return (Integer) method(name).invoke(beds, numbers);
    }

    private static Method method(String name) throws NoSuchMethodException {
        for (Method method : ChalkBeds.class.getDeclaredMethods()) {
            if (method.getName().equals(name)) {
                return method;
            }
        }
        throw new NoSuchMethodException(name);
    }

    private static int number(String told) throws ReflectiveOperationException {
        return told.matches("-?\\d+") ? Integer.parseInt(told) : ChalkBeds.class.getField(told).getInt(null);
    }

    private static void tellsAllCalls(String readme) {
        for (Method method : ChalkBeds.class.getDeclaredMethods()) {
            if (Modifier.isPublic(method.getModifiers())) {
                due.holds("README.md tells " + method.getName(), readme.contains("\n| `" + method.getName() + "("));
            }
        }
    }

    private static void showsHowToPack(String readme) throws IOException {
        Matcher shown = Pattern.compile("(?s)\n(static long packed.*?\n}\n)").matcher(readme);
        String used = Files.readString(Path.of("src/test/java/Texts.java")).replace("\n    ", "\n");
        due.holds("README.md packs as the tests do", shown.find() && used.contains(shown.group(1)));
    }
}

import java.lang.reflect.Method;
import java.lang.reflect.Modifier;
import java.nio.file.Files;
import java.nio.file.Path;
import java.util.regex.Matcher;
import java.util.regex.Pattern;

/** The example of README.md: each call answers the number that stands behind it there. */
public final class ReadmeTest {
    private static final Pattern CALL =
            Pattern.compile("reader\\.(\\w+)\\((.*)\\);\\s*// (-?\\d+).*");

    private ReadmeTest() {
    }

    public static void main(String[] args) throws Exception {
        PictureReader reader = new PictureReader();
        int calls = 0;
        for (String line : Files.readAllLines(Path.of("README.md"))) {
            Matcher m = CALL.matcher(line);
            if (m.matches()) {
                Due.is(line, answer(reader, m.group(1), m.group(2).split(", *")),
                        Long.parseLong(m.group(3)));
                calls++;
            } else {
                Due.is("a call without its answer: " + line, line.startsWith("reader.") ? 1 : 0, 0);
            }
        }
        Due.is("calls of the example", calls > 0 ? 1 : 0, 1);
        namesEveryCall(Files.readString(Path.of("README.md")));
        Due.finish();
    }

    private static long answer(PictureReader reader, String name, String[] numbers)
            throws ReflectiveOperationException {
        Class<?>[] types = new Class<?>[numbers.length];
        Object[] values = new Object[numbers.length];
        for (int i = 0; i < numbers.length; i++) {
            types[i] = int.class;
            values[i] = Long.decode(numbers[i]).intValue();
        }
        Object got = PictureReader.class.getMethod(name, types).invoke(reader, values);
        return ((Number) got).longValue();
    }

    private static void namesEveryCall(String text) {
        for (Method m : PictureReader.class.getDeclaredMethods()) {
            if (Modifier.isPublic(m.getModifiers())) {
                Due.is("README names " + m.getName(),
                        text.contains("`" + m.getName() + "`") ? 1 : 0, 1);
            }
        }
    }
}

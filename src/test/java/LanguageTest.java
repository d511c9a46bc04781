import java.lang.management.ManagementFactory;
import java.lang.reflect.Constructor;
import java.lang.reflect.Field;
import java.lang.reflect.Method;
import java.lang.reflect.Modifier;
import java.nio.file.Files;
import java.nio.file.Path;
import java.util.Arrays;
import java.util.List;
import java.util.Set;
import java.util.TreeSet;
import java.util.regex.Matcher;
import java.util.regex.Pattern;

/** The face of the class, and what can be seen of the rules of LANGUAGE.md. */
public final class LanguageTest {
    private static final Set<String> FACE = Set.of(
            "int feed(int,int,int,int,int)", "int end(int)", "int read(int)",
            "int about(int,int)", "int hole(int,int,int)", "int thing(int,int)",
            "int told(int,int,int)", "long value(int,int,int)", "int ref(int,int,int)",
            "int under(int,int,int)", "int alive(int,int)", "int keeper(int,int)",
            "int kept(int,int)", "int height(int,int)", "int way(int,int,int)", "int step(int)",
            "int groups(int)", "int group(int,int,int)", "int top(int,int)",
            "int differ(int,int,int)", "int differs(int,int,int,int)", "int grown(int,int,int)");

    private LanguageTest() {
    }

    public static void main(String[] args) throws Exception {
        face();
        Class<?>[] inside = PictureReader.class.getDeclaredClasses();
        Due.is("classes", inside.length + 1 <= 12 ? 0 : inside.length, 0);
        for (Class<?> c : inside) {
            Due.is(c + " is static", Modifier.isStatic(c.getModifiers()) ? 1 : 0, 1);
            members(c);
        }
        members(PictureReader.class);
        words(Files.readString(Path.of("src/main/java/PictureReader.java")));
        room();
        Due.finish();
    }

    private static void face() {
        Set<String> found = new TreeSet<>();
        for (Method m : PictureReader.class.getDeclaredMethods()) {
            if (!Modifier.isPrivate(m.getModifiers())) {
                found.add(signature(m));
            }
        }
        Due.is("the public methods are " + found, found.equals(FACE) ? 1 : 0, 1);
        Constructor<?>[] made = PictureReader.class.getDeclaredConstructors();
        Due.is("one constructor", made.length, 1);
        Due.is("without arguments", made[0].getParameterCount(), 0);
        for (Field f : PictureReader.class.getDeclaredFields()) {
            boolean hidden = Modifier.isPrivate(f.getModifiers());
            Due.is(f.toString(), hidden ? 0 : 1, f.getName().equals("NONE") ? 1 : 0);
        }
        Due.is("final", Modifier.isFinal(PictureReader.class.getModifiers()) ? 1 : 0, 1);
    }

    private static String signature(Method m) {
        StringBuilder text = new StringBuilder(m.getReturnType() + " " + m.getName() + "(");
        for (int i = 0; i < m.getParameterCount(); i++) {
            text.append(i == 0 ? "" : ",").append(m.getParameterTypes()[i]);
        }
        return text.append(")").toString();
    }

    private static void members(Class<?> c) {
        long fields = Arrays.stream(c.getDeclaredFields())
                .filter(f -> !Modifier.isStatic(f.getModifiers())).count();
        Due.is(c + " has at most twenty fields", fields <= 20 ? 0 : fields, 0);
        for (Field f : c.getDeclaredFields()) {
            boolean loose = Modifier.isStatic(f.getModifiers())
                    && !Modifier.isFinal(f.getModifiers());
            Due.is(f + " is no loose static", loose ? 1 : 0, 0);
        }
        for (Method m : c.getDeclaredMethods()) {
            Due.is(m + " has at most seven parameters", m.getParameterCount() <= 7 ? 1 : 0, 1);
            boolean ofFace = FACE.stream().anyMatch(s -> s.contains(" " + m.getName() + "("));
            boolean hidden = c != PictureReader.class || Modifier.isPrivate(m.getModifiers());
            Due.is(m + " has a name of its own", ofFace && hidden ? 1 : 0, 0);
        }
    }

    private static void words(String source) {
        String code = source.replaceAll("(?s)/\\*.*?\\*/", "").replaceAll("//.*", "");
        List<String> ruledOut = List.of("throw", "throws", "try", "catch", "finally",
                "synchronized", "assert", "import", "package", "double", "float", "->", "::",
                "Exact", "System.currentTimeMillis", "System.nanoTime", "Random", "Thread");
        for (String word : ruledOut) {
            String edge = Character.isLetter(word.charAt(0)) ? "\\b" : "";
            Matcher m = Pattern.compile(edge + Pattern.quote(word) + edge).matcher(code);
            Due.is("word " + word, m.find() ? 1 : 0, 0);
        }
        boolean plain = source.chars().allMatch(c -> c == '\n' || c >= 32 && c < 127);
        Due.is("plain signs", plain ? 1 : 0, 1);
        int longest = 0;
        int start = 0;
        String[] lines = code.split("\n");
        for (int i = 0; i < lines.length; i++) {
            if (lines[i].matches(" {4,8}[a-zA-Z].*\\) \\{")) {
                start = i;
            }
            if (lines[i].matches("( {4}| {8})\\}")) {
                longest = Math.max(longest, i - start + 1);
                // Behind a class inside, no method is open.
                start = i;
            }
        }
        Due.is("the longest method has at most sixty lines", longest <= 60 ? 0 : longest, 0);
    }

    /** What a run makes stays: so the constructor alone may make rows, and not many. */
    private static void room() {
        com.sun.management.ThreadMXBean bean =
                (com.sun.management.ThreadMXBean) ManagementFactory.getThreadMXBean();
        long sum = 0;
        long before = bean.getCurrentThreadAllocatedBytes();
        PictureReader x = new PictureReader();
        long made = bean.getCurrentThreadAllocatedBytes() - before;
        Due.is("the constructor makes less than a megabyte", made < 1000000 ? 0 : made, 0);
        sum += calls(x);
        before = bean.getCurrentThreadAllocatedBytes();
        for (int i = 0; i < 20; i++) {
            sum += calls(x);
        }
        long later = bean.getCurrentThreadAllocatedBytes() - before;
        // The measuring itself makes a little.
        Due.is("calls make nothing", later < 2000 ? 0 : later, 0);
        Due.is("they did answer", sum == 0 ? 0 : 1, 1);
    }

    private static long calls(PictureReader x) {
        long sum = 0;
        for (int p = 0; p < 3; p++) {
            sum += x.feed(0x52000105, 0x00020002, 0x00000a41, 0x00000100, 0);
            sum += x.end(15) + x.read(p) + x.about(p, 9) + x.hole(p, 0, 0) + x.thing(p, 0);
            sum += x.told(p, 1, 6) + x.value(p, 1, 0) + x.ref(p, 1, 1) + x.under(p, 0, 0);
            sum += x.alive(p, 1) + x.keeper(p, 1) + x.kept(p, 1) + x.height(p, 1);
            sum += x.way(p, 1, 0) + x.step(0) + x.groups(p) + x.group(p, 0, 0) + x.top(p, 0);
            sum += x.differ(p, 0, 4) + x.differs(p, 0, 4, 0) + x.grown(p, 0, 0);
        }
        return sum;
    }
}

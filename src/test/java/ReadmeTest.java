import java.io.IOException;
import java.lang.reflect.Method;
import java.lang.reflect.Modifier;
import java.nio.file.Files;
import java.nio.file.Path;
import java.util.Set;
import java.util.TreeSet;
import java.util.regex.Matcher;
import java.util.regex.Pattern;

/** README.md lists the calls of the class, and its example has the answers that the class gives. */
public final class ReadmeTest {
    private static final Check CHECK = new Check("ReadmeTest");
    private static final Pattern LISTED = Pattern.compile("\\| `(int|boolean|void) (\\w+)\\(([^)]*)\\)` \\|");
    private static final Pattern CALL = Pattern.compile("x\\.(\\w+)\\(([^)]*)\\); +// ([\\w-]+)(:.*)?");
    private static final Pattern EXAMPLE = Pattern.compile("```java\n(.*?)```", Pattern.DOTALL);

    private final Set<String> called = new TreeSet<>();
    private ScratchSwap x;

    private ReadmeTest() {
    }

    public static void main(String[] args) throws IOException, ReflectiveOperationException {
        String text = Files.readString(Path.of("README.md"));
        listed(text);
        Matcher example = EXAMPLE.matcher(text);
        CHECK.due("there is an example", example.find(), true);
        new ReadmeTest().go(example.group(1));
        CHECK.end();
    }

    private static void listed(String text) {
        Set<String> calls = new TreeSet<>();
        for (Matcher m = LISTED.matcher(text); m.find();) {
            calls.add(m.group(1) + " " + m.group(2) + "(" + m.group(3).replaceAll(" \\w+(, |$)", "$1")
                    .replace(", ", ",") + ")");
        }
        CHECK.due("the calls listed, " + calls + ", are those of the class", calls.equals(FaceTest.METHODS), true);
    }

    private void go(String example) throws ReflectiveOperationException {
        for (String line : example.split("\n")) {
            if (line.equals("ScratchSwap x = new ScratchSwap();")) {
                x = new ScratchSwap();
            } else if (line.equals("x.power();")) {
                called.add("power");
                x.power();
            } else if (!line.isEmpty() && !line.startsWith("// ")) {
                call(line);
            }
        }
        Set<String> names = new TreeSet<>();
        for (Method method : ScratchSwap.class.getDeclaredMethods()) {
            if (Modifier.isPublic(method.getModifiers())) {
                names.add(method.getName());
            }
        }
        CHECK.due("the example has every call, " + called, called.equals(names), true);
    }

    private void call(String line) throws ReflectiveOperationException {
        Matcher m = CALL.matcher(line);
        if (x == null || !m.matches()) {
            CHECK.due("a call and its answer: " + line, false, true);
            return;
        }
        called.add(m.group(1));
        String[] words = m.group(2).isEmpty() ? new String[0] : m.group(2).split(", ");
        Object[] values = new Object[words.length];
        Class<?>[] types = new Class<?>[words.length];
        for (int i = 0; i < words.length; i++) {
            boolean truth = words[i].equals("true") || words[i].equals("false");
            types[i] = truth ? boolean.class : int.class;
            values[i] = truth ? (Object) Boolean.valueOf(words[i]) : (Object) Integer.valueOf(words[i]);
        }
        Object answer = ScratchSwap.class.getMethod(m.group(1), types).invoke(x, values);
        CHECK.due(line, number(String.valueOf(answer)), number(m.group(3)));
    }

    private static long number(String word) throws ReflectiveOperationException {
        if (word.equals("true") || word.equals("false")) {
            return word.equals("true") ? 1 : 0;
        }
        return word.matches("[A-Z]+") ? ScratchSwap.class.getField(word).getInt(null) : Long.parseLong(word);
    }
}

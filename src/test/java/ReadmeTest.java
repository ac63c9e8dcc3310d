import java.io.IOException;
import java.lang.reflect.Method;
import java.nio.file.Files;
import java.nio.file.Path;
import java.util.Set;
import java.util.TreeSet;
import java.util.regex.Matcher;
import java.util.regex.Pattern;

/** What README.md shows: each call in its Java lines gives the answer that stands behind it, in their order. */
public final class ReadmeTest {
    private static final Pattern OBJECT = Pattern.compile("HeelsIn x = new HeelsIn\\(\\);.*");
    private static final Pattern TEXT = Pattern.compile("(?:String text = |    \\+ )\"([^\"]*)\"(;?)");
    private static final Pattern FEEDING = Pattern.compile("for \\(int k = 0; k < text.length\\(\\); k\\+\\+\\) \\{|    x.feed\\(text.charAt\\(k\\), 1\\);|\\}");
    private static final Pattern CALL = Pattern.compile("x\\.(\\w+)\\(([-\\d, ]*)\\); +// (-?\\w+)(?:[:,].*)?");

    private HeelsIn x;
    private final StringBuilder text = new StringBuilder();
    private int calls = 0;

    private ReadmeTest() {
    }

    public static void main(String[] args) throws IOException, ReflectiveOperationException {
        ReadmeTest test = new ReadmeTest();
        boolean java = false;
        for (String line : Files.readAllLines(Path.of("README.md"))) {
            if (line.startsWith("```")) {
                java = line.equals("```java");
            } else if (java && !line.isBlank() && !line.startsWith("//")) {
                test.line(line);
            }
        }
        Due.is("calls were found", test.calls > 30 ? 1 : 0, 1);
        everyTestIsNamed();
        Due.end("ReadmeTest");
    }

    private void line(String line) throws ReflectiveOperationException {
        Matcher text = TEXT.matcher(line);
        Matcher call = CALL.matcher(line);
        if (OBJECT.matcher(line).matches()) {
            x = new HeelsIn();
        } else if (text.matches()) {
            takeText(text.group(1), !text.group(2).isEmpty());
        } else if (call.matches()) {
            calls++;
            Due.is(line, answer(call.group(1), call.group(2)), due(call.group(3)));
        } else {
            Due.is(line + " is read", FEEDING.matcher(line).matches() ? 1 : 0, 1);
        }
    }

    /** The loop that the README shows behind a text feeds it byte by byte. */
    private void takeText(String part, boolean last) {
        text.append(part.replace("\\n", "\n"));
        if (last) {
            for (int k = 0; k < text.length(); k++) {
                x.feed(text.charAt(k), 1);
            }
            text.setLength(0);
        }
    }

    private int answer(String name, String arguments) throws ReflectiveOperationException {
        String[] parts = arguments.isBlank() ? new String[0] : arguments.split(", *");
        for (Method m : HeelsIn.class.getMethods()) {
            if (m.getName().equals(name) && m.getParameterCount() == parts.length) {
                Object[] values = new Object[parts.length];
                for (int k = 0; k < parts.length; k++) {
                    boolean wide = m.getParameterTypes()[k] == long.class;
                    values[k] = wide ? (Object) Long.valueOf(parts[k]) : (Object) Integer.valueOf(parts[k]);
                }
                return (Integer) m.invoke(x, values);
            }
        }
        throw new NoSuchMethodException(name + " of " + parts.length);
    }

    private static int due(String word) throws ReflectiveOperationException {
        return word.matches("-?\\d+") ? Integer.parseInt(word) : HeelsIn.class.getField(word).getInt(null);
    }

    private static void everyTestIsNamed() throws IOException {
        String readme = Files.readString(Path.of("README.md"));
        Set<String> tests = new TreeSet<>();
        try (var files = Files.newDirectoryStream(Path.of("src/test/java"), "*Test.java")) {
            files.forEach(f -> tests.add(f.getFileName().toString().replace(".java", "")));
        }
        for (String test : tests) {
            Due.is("README.md names " + test, readme.contains("`" + test + "`") ? 1 : 0, 1);
        }
        for (Method m : HeelsIn.class.getDeclaredMethods()) {
            if (java.lang.reflect.Modifier.isPublic(m.getModifiers())) {
                Due.is("README.md shows " + m.getName(), readme.contains("x." + m.getName() + "(") ? 1 : 0, 1);
            }
        }
    }
}

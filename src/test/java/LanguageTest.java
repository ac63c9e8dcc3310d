import java.io.IOException;
import java.nio.file.Files;
import java.nio.file.Path;
import java.util.ArrayList;
import java.util.List;
import java.util.Set;
import java.util.regex.Matcher;
import java.util.regex.Pattern;

/** ../shared/LANGUAGE.md, as far as the words of the one file show it; FaceTest looks at the face. */
public final class LanguageTest {
    private static final String SOURCE = "src/main/java/HeelsIn.java";
    private static final Set<String> LIBRARY = Set.of("Math.min", "Math.max", "Math.abs", "Integer.compare", "Integer.bitCount",
        "System.arraycopy");
    private static final int MOST_LINES = 60, MOST_PARAMETERS = 7, MOST_CLASSES = 12, MOST_FIELDS = 20;

    private LanguageTest() {
    }

    public static void main(String[] args) throws IOException {
        List<String> lines = new ArrayList<>();
        for (String line : Files.readAllLines(Path.of(SOURCE))) {
            lines.add(line.replaceAll("\"[^\"]*\"", "\"\"").replaceAll("//.*|^\\s*/?\\*.*", ""));
        }
        String text = String.join("\n", lines);
        forbidden(text);
        library(text);
        Due.is("11 classes, the public one among them", count(text, "\\bclass \\w+") <= MOST_CLASSES ? 1 : 0, 1);
        Due.is("one public class", count(text, "\\bpublic\\b.*\\bclass "), 1);
        Due.is("5 static fields are final", count(text, "\\bstatic (?!final)[\\w\\[\\]]+ \\w+ *[=;]"), 0);
        Due.is("5 no static initialiser", count(text, "\\bstatic *\\{"), 0);
        for (String part : text.split("\\bclass ")) {
            Due.is("11 fields", count(part, "(?m)^\\s+private (?!static)(final )?[\\w\\[\\]]+ \\w+( =.*)?;$") <= MOST_FIELDS ? 1 : 0, 1);
        }
        methods(lines);
        Due.end("LanguageTest");
    }

    private static int count(String text, String pattern) {
        Matcher m = Pattern.compile(pattern).matcher(text);
        int there = 0;
        while (m.find()) {
            there++;
        }
        return there;
    }

    private static void forbidden(String text) {
        String[] words = {"import", "package", "throw", "throws", "try", "catch", "finally", "synchronized", "assert", "native", "volatile",
            "protected", "Object", "Exception", "Error", "hashCode", "toString", "Thread", "Random", "var", "yield", "instanceof", "goto"};
        for (String word : words) {
            Due.is("no " + word, count(text, "\\b" + word + "\\b"), 0);
        }
        Due.is("no lambda", count(text, "->"), 0);
        Due.is("no method reference", count(text, "::"), 0);
        Due.is("no annotation", count(text, "@"), 0);
        Due.is("no array of three dimensions", count(text, "\\[\\]\\[\\]\\["), 0);
        Due.is("no name of the library written out", count(text, "\\bjava\\."), 0);
        Due.is("no text joined by +", count(text, "\"\" *\\+|\\+ *\"\""), 0);
        for (char sign : text.toCharArray()) {
            Due.is("signs are plain", sign < 128 ? 1 : 0, 1);
        }
    }

    private static void library(String text) {
        Matcher m = Pattern.compile("\\b(Math|Integer|Long|System|Arrays|String|Character|Byte|Short|Double|Float|Boolean)\\.\\w+").matcher(text);
        while (m.find()) {
            Due.is("4 " + m.group(), LIBRARY.contains(m.group()) ? 1 : 0, 1);
        }
    }

    private static void methods(List<String> lines) {
        Pattern head = Pattern.compile("^(\\s+)(?:public |private )(?:static )?(?:[\\w\\[\\]]+ )?\\w+\\(([^)]*)\\) \\{$");
        int found = 0;
        for (int k = 0; k < lines.size(); k++) {
            Matcher m = head.matcher(lines.get(k));
            if (m.matches()) {
                int end = k;
                while (!lines.get(end).equals(m.group(1) + "}")) {
                    end++;
                }
                found++;
                Due.is("11 lines of the method in line " + (k + 1), end - k <= MOST_LINES ? 1 : 0, 1);
                Due.is("11 parameters in line " + (k + 1), m.group(2).split(",").length <= MOST_PARAMETERS ? 1 : 0, 1);
            }
        }
        Due.is("methods were found", found > 50 ? 1 : 0, 1);
    }
}

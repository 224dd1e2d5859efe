import java.io.IOException;
import java.nio.file.Files;
import java.nio.file.Path;
import java.util.TreeMap;
import java.util.regex.Matcher;
import java.util.regex.Pattern;

/** What a look at the text can tell of LANGUAGE.md's rules. Runs from the project's folder. */
public final class LanguageTest {
    private static final Checks CHECKS = new Checks("LanguageTest");

    public static void main(String[] args) throws IOException {
        String source = Files.readString(Path.of("src/main/java/ReplicaDocument.java"));
        String code = source.replaceAll("(?s)/\\*.*?\\*/", "").replaceAll("//[^\n]*", "");
        String[] forbidden = {
            "throw", "throws", "try", "catch", "synchronized", "assert", "package", "import", "protected",
            "hashCode", "toString", "var", "Object", "Random", "Thread", "native", "volatile", "transient"};
        for (String word : forbidden) {
            count(code, "\\b" + word + "\\b", 0);
        }
        count(code, "->|::|\\.\\.\\.|@|\"", 0);
        count(code, "\\bstatic\\s*\\{", 0);
        count(code, "\\bstatic (?!final )\\w+(\\[\\])* \\w+\\s*[=;]", 0);
        count(code, "(?<!static )(?<!static final )\\bclass \\w+ \\{", 1);
        count(code, "public final class ReplicaDocument \\{", 1);
        count(code, "(System\\.(?!arraycopy)|Math\\.(?!max|min|abs))\\w+", 0);
        classesStayFew(code);
        objectsAreMadeInConstructorsAlone(code);
        methodsStayShort(code);
        callsStayFlat(code);
        CHECKS.end();
    }

    private static void count(String code, String pattern, int want) {
        int found = 0;
        Matcher matcher = Pattern.compile(pattern).matcher(code);
        while (matcher.find()) {
            found++;
        }
        CHECKS.due("places that match " + pattern, found, want);
    }

    private static void classesStayFew(String code) {
        int classes = code.split("\\bclass \\w+ \\{", -1).length - 1;
        CHECKS.due("classes: " + classes, classes <= 12, true);
    }

    /** A constructor's line has a name that begins with a capital and no type ahead of it. */
    private static void objectsAreMadeInConstructorsAlone(String code) {
        boolean inConstructor = false;
        for (String line : code.split("\n")) {
            if (line.endsWith(") {") && line.matches(" {4}(\\S.*| {4}\\S.*)") && !isStatement(line)) {
                inConstructor = line.matches("\\s*(public )?[A-Z]\\w*\\(.*");
            }
            if (line.contains("new ")) {
                CHECKS.due("in a constructor:" + line, inConstructor, true);
            }
        }
    }

    private static boolean isStatement(String line) {
        return line.matches("\\s*(\\} else )?(if|for|while|switch) ?\\(.*");
    }

    private static void methodsStayShort(String code) {
        String[] lines = code.split("\n");
        int start = -1;
        for (int i = 0; i < lines.length; i++) {
            if (lines[i].matches(" {4,8}\\w.*\\) \\{") && !isStatement(lines[i])) {
                start = i;
                int parameters = lines[i].split(",", -1).length;
                CHECKS.due("at most seven parameters:" + lines[i], parameters <= 7, true);
            } else if (start >= 0 && lines[i].matches(" {4,8}\\}")
                    && lines[i].indexOf('}') == lines[start].length() - lines[start].stripLeading().length()) {
                CHECKS.due("at most sixty lines:" + lines[start], i - start <= 60, true);
                start = -1;
            }
        }
    }

    /** Every method's name stands once, so that a name tells who is called: at most eight deep, and no recursion. */
    private static void callsStayFlat(String code) {
        Matcher heading = Pattern.compile("(?m)^ {4,8}(?:\\w+ )*(\\w+)\\([^()]*\\) \\{$").matcher(code);
        TreeMap<String, String> bodies = new TreeMap<>();
        String name = null;
        int start = 0;
        while (heading.find()) {
            if (name != null) {
                bodies.put(name, code.substring(start, heading.start()));
            }
            name = heading.group(1);
            start = heading.end();
            CHECKS.due("a name that stands once: " + name, bodies.containsKey(name), false);
        }
        bodies.put(name, code.substring(start));
        for (String method : bodies.keySet()) {
            CHECKS.due("at most eight deep: " + method, levelsOf(bodies, method, 1) <= 8, true);
        }
    }

    /** Goes no deeper than nine, where recursion ends too. */
    private static int levelsOf(TreeMap<String, String> bodies, String method, int level) {
        int deepest = level;
        Matcher call = Pattern.compile("\\b(\\w+)\\(").matcher(bodies.get(method));
        while (level < 9 && call.find()) {
            if (bodies.containsKey(call.group(1))) {
                deepest = Math.max(deepest, levelsOf(bodies, call.group(1), level + 1));
            }
        }
        return deepest;
    }
}

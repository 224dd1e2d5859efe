import java.io.IOException;
import java.lang.reflect.Field;
import java.lang.reflect.Method;
import java.lang.reflect.Modifier;
import java.nio.file.Files;
import java.nio.file.Path;
import java.util.Arrays;
import java.util.List;
import java.util.regex.Matcher;
import java.util.regex.Pattern;

/** What README.md tells holds: its examples, its calls, its constants, its tests. Runs from the project's folder. */
public final class ReadmeTest {
    private static final Checks CHECKS = new Checks("ReadmeTest");
    private static final Pattern CALL = Pattern.compile("x\\.(\\w+)\\(([-0-9, ]+)\\); +// ([-\\w]+)(:.*)?");

    public static void main(String[] args) throws IOException, ReflectiveOperationException {
        String readme = Files.readString(Path.of("README.md"));
        examplesAnswerAsTold(readme.lines().toList());
        everyCallIsTold(readme);
        everyConstantIsTold(readme);
        everyTestIsTold(readme);
        CHECKS.end();
    }

    private static void examplesAnswerAsTold(List<String> lines) throws ReflectiveOperationException {
        ReplicaDocument x = null;
        int objects = 0;
        for (String line : lines) {
            Matcher call = CALL.matcher(line);
            if (line.equals("ReplicaDocument x = new ReplicaDocument();")) {
                x = new ReplicaDocument();
                objects++;
            } else if (call.matches()) {
                CHECKS.due(line, ask(x, call.group(1), call.group(2)), numberOf(call.group(3)));
            } else {
                CHECKS.due("a line that can be run: " + line, line.startsWith("x."), false);
            }
        }
        CHECKS.due("examples", objects, 2);
    }

    private static int ask(ReplicaDocument x, String name, String told) throws ReflectiveOperationException {
        Object[] arguments = Arrays.stream(told.split(", ")).map(Integer::valueOf).toArray();
        Class<?>[] types = new Class<?>[arguments.length];
        Arrays.fill(types, int.class);
        Object answer = ReplicaDocument.class.getMethod(name, types).invoke(x, arguments);
        return answer instanceof Boolean yes ? yes ? 1 : 0 : (Integer) answer;
    }

    private static int numberOf(String told) throws ReflectiveOperationException {
        if (told.equals("true") || told.equals("false")) {
            return told.equals("true") ? 1 : 0;
        }
        return told.matches("[A-Z]+") ? ReplicaDocument.class.getField(told).getInt(null) : Integer.parseInt(told);
    }

    private static void everyCallIsTold(String readme) {
        for (Method method : ReplicaDocument.class.getDeclaredMethods()) {
            if (Modifier.isPublic(method.getModifiers())) {
                String row = "\n\\| `" + method.getName() + "\\((\\w+(?:, \\w+)*)\\)` \\|";
                Matcher told = Pattern.compile(row).matcher(readme);
                CHECKS.due(row, told.find() ? told.group(1).split(", ").length : 0, method.getParameterCount());
            }
        }
    }

    private static void everyConstantIsTold(String readme) throws ReflectiveOperationException {
        for (Field field : ReplicaDocument.class.getFields()) {
            String row = "\n| `" + field.getName() + "` " + field.getInt(null) + " |";
            CHECKS.due("a row for" + row, readme.contains(row), true);
        }
    }

    private static void everyTestIsTold(String readme) throws IOException {
        try (var files = Files.list(Path.of("src/test/java"))) {
            for (String name : files.map(file -> file.getFileName().toString()).toList()) {
                String row = "\n| `" + name.replace(".java", "") + "` |";
                CHECKS.due("a row for" + row, readme.contains(row), name.endsWith("Test.java"));
            }
        }
    }
}

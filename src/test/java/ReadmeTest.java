import java.io.IOException;
import java.lang.reflect.InvocationTargetException;
import java.lang.reflect.Method;
import java.lang.reflect.Modifier;
import java.nio.file.Files;
import java.nio.file.Path;
import java.util.ArrayList;
import java.util.List;
import java.util.Set;
import java.util.TreeSet;
import java.util.regex.Matcher;
import java.util.regex.Pattern;

/** README.md tells each call of the face, and its examples answer as they say. */
public final class ReadmeTest {
    private static final String MADE = "BlockCode code = new BlockCode();";
    private static final Pattern CALL = Pattern.compile("code\\.(\\w+)\\((.*)\\); *// ([^:]+)(:.*)?");
    private static final Pattern TOLD = Pattern.compile("- `(\\w+) (\\w+)\\(([^)]*)\\)`: .*");

    public static void main(String[] args) throws IOException, IllegalAccessException {
        Checks checks = new Checks();
        List<String> lines = Files.readAllLines(Path.of("README.md"));
        checkExamples(checks, lines);
        checkTold(checks, lines);
        checkTestsListed(checks, String.join("\n", lines));
        checks.end("ReadmeTest");
    }

    private static void checkExamples(Checks checks, List<String> lines)
            throws IllegalAccessException {
        Set<String> called = new TreeSet<>();
        for (List<String> example : examples(lines)) {
            checks.due("an example begins with " + MADE, example.get(0).equals(MADE), true);
            checkExample(checks, example, called);
        }
        for (Method method : face()) {
            checks.due("an example calls " + method.getName(),
                    called.contains(method.getName()), true);
        }
    }

    private static void checkExample(Checks checks, List<String> example, Set<String> called)
            throws IllegalAccessException {
        BlockCode code = new BlockCode();
        for (String line : example.subList(1, example.size())) {
            Matcher call = CALL.matcher(line);
            boolean isCall = call.matches();
            checks.due("a call with its answer: " + line, isCall, true);
            if (isCall) {
                called.add(call.group(1));
                String got = answer(code, call.group(1), call.group(2));
                checks.due(line + " (got " + got + ")", got.equals(call.group(3).trim()), true);
            }
        }
    }

    private static List<List<String>> examples(List<String> lines) {
        List<List<String>> examples = new ArrayList<>();
        boolean inside = false;
        for (String line : lines) {
            if (line.startsWith("```")) {
                inside = line.equals("```java");
                if (inside) {
                    examples.add(new ArrayList<>());
                }
            } else if (inside) {
                examples.get(examples.size() - 1).add(line);
            }
        }
        return examples;
    }

    private static String answer(BlockCode code, String name, String written)
            throws IllegalAccessException {
        String[] words = written.isEmpty() ? new String[0] : written.split(", ");
        Object[] numbers = new Object[words.length];
        for (int k = 0; k < words.length; k++) {
            numbers[k] = Integer.valueOf(words[k]);
        }
        for (Method method : face()) {
            if (method.getName().equals(name) && method.getParameterCount() == words.length) {
                return answer(code, method, numbers);
            }
        }
        return "no such call";
    }

    private static String answer(BlockCode code, Method method, Object[] numbers)
            throws IllegalAccessException {
        try {
            Object answer = method.invoke(code, numbers);
            return answer == null ? "nothing" : answer.toString();
        } catch (InvocationTargetException e) {
            return "throws " + e.getCause().getClass().getSimpleName();
        }
    }

    private static void checkTold(Checks checks, List<String> lines) {
        List<String> told = new ArrayList<>();
        for (String line : lines) {
            Matcher call = TOLD.matcher(line);
            if (call.matches()) {
                String types = call.group(3).replaceAll(" \\w+(, |$)", "$1");
                told.add(call.group(1) + " " + call.group(2) + "(" + types + ")");
            }
        }
        for (Method method : face()) {
            String call = written(method);
            checks.due("README.md tells " + call, told.remove(call), true);
        }
        checks.due("README.md tells calls that are none: " + told, told.size(), 0);
    }

    private static void checkTestsListed(Checks checks, String text) throws IOException {
        try (var files = Files.list(Path.of("src/test/java"))) {
            files.forEach(file -> {
                String name = file.getFileName().toString().replace(".java", "");
                checks.due("README.md tells of " + name, text.contains("`" + name + "`"), true);
            });
        }
    }

    private static List<Method> face() {
        List<Method> face = new ArrayList<>();
        for (Method method : BlockCode.class.getDeclaredMethods()) {
            if (Modifier.isPublic(method.getModifiers())) {
                face.add(method);
            }
        }
        return face;
    }

    private static String written(Method method) {
        StringBuilder text = new StringBuilder();
        text.append(method.getReturnType().getSimpleName()).append(' ');
        text.append(method.getName()).append('(');
        String gap = "";
        for (Class<?> type : method.getParameterTypes()) {
            text.append(gap).append(type.getSimpleName());
            gap = ", ";
        }
        return text.append(')').toString();
    }
}

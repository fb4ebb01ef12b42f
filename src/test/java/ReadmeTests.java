import java.io.IOException;
import java.lang.reflect.InvocationTargetException;
import java.lang.reflect.Method;
import java.nio.charset.StandardCharsets;
import java.nio.file.Files;
import java.nio.file.Path;
import java.util.Set;
import java.util.TreeSet;
import java.util.regex.Matcher;
import java.util.regex.Pattern;

/** README.md's example is run line by line, so that it cannot tell of another class than this one. */
public final class ReadmeTests extends Checks {
    private static final Pattern CALL = Pattern.compile("x\\.(\\w+)\\((.*)\\); +// (-?\\d+): .*");
    private static final Pattern TELL = Pattern.compile("tell\\(x, \"(.*)\"\\);");

    private static Object argument(Class<?> type, String word) {
        return type == boolean.class ? (Object) Boolean.valueOf(word) : type == long.class ? (Object) Long.valueOf(word) : Integer.valueOf(word);
    }

    private static int call(FittingStrides x, String name, String list) throws IllegalAccessException, InvocationTargetException {
        String[] words = list.isEmpty() ? new String[0] : list.split(", ");
        for (Method m : FittingStrides.class.getMethods()) {
            if (m.getName().equals(name) && m.getParameterCount() == words.length) {
                Object[] arguments = new Object[words.length];
                for (int i = 0; i < words.length; i++) {
                    arguments[i] = argument(m.getParameterTypes()[i], words[i]);
                }
                return (Integer) m.invoke(x, arguments);
            }
        }
        return MIN;
    }

    private static void example(String readme) throws IllegalAccessException, InvocationTargetException {
        says("How to use it");
        FittingStrides x = new FittingStrides();
        StringBuilder text = new StringBuilder();
        int calls = 0;
        for (String line : readme.split("\n")) {
            Matcher told = TELL.matcher(line);
            Matcher called = CALL.matcher(line);
            if (told.matches()) {
                text.append(told.group(1));
            } else if (called.matches()) {
                feed(x, text.toString());
                text.setLength(0);
                due(line, call(x, called.group(1), called.group(2)), Integer.parseInt(called.group(3)));
                calls++;
            } else {
                due("a line that is no call: " + line, line.startsWith("x.") ? 1 : 0, 0);
            }
        }
        due("calls of the example, at least", Math.min(calls, 20), 20);
    }

    private static void namesEveryCall(String readme) {
        says("| Calls | What they are for |");
        Set<String> named = new TreeSet<>();
        for (String line : readme.split("\n")) {
            if (line.startsWith("| `")) {
                Matcher name = Pattern.compile("`(\\w+)`").matcher(line);
                while (name.find()) {
                    named.add(name.group(1));
                }
            }
        }
        Set<String> calls = new TreeSet<>();
        for (Method m : FittingStrides.class.getDeclaredMethods()) {
            if (java.lang.reflect.Modifier.isPublic(m.getModifiers())) {
                calls.add(m.getName());
            }
        }
        due("README.md names " + named + " of " + calls, named.equals(calls) ? 1 : 0, 1);
    }

    private static void namesEveryTest(String readme) throws IOException {
        says("How to run its tests");
        try (java.util.stream.Stream<Path> tests = Files.list(Path.of("src/test/java"))) {
            tests.forEach(test -> {
                String name = test.getFileName().toString().replace(".java", "");
                due("README.md tells of " + name, readme.contains("`" + name + "`") ? 1 : 0, 1);
            });
        }
        due("README.md tells of .ci/run", readme.contains("    .ci/run\n") ? 1 : 0, 1);
    }

    public static void main(String[] args) throws Exception {
        String readme = Files.readString(Path.of("README.md"), StandardCharsets.UTF_8);
        example(readme);
        namesEveryCall(readme);
        namesEveryTest(readme);
        end();
    }
}

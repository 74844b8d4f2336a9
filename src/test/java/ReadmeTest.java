import java.io.IOException;
import java.lang.reflect.InvocationTargetException;
import java.lang.reflect.Method;
import java.lang.reflect.Modifier;
import java.nio.file.Files;
import java.nio.file.Path;
import java.util.HashMap;
import java.util.HashSet;
import java.util.List;
import java.util.Map;
import java.util.Set;
import java.util.regex.Matcher;
import java.util.regex.Pattern;

/** README.md: its examples answer what it says they answer, and the tests that it names are there. */
final class ReadmeTest {
    private static final String NEW_OBJECT = "XmppPair x = new XmppPair();";
    private static final Pattern CALL = Pattern.compile("x\\.(\\w+)\\((.*)\\); +// (-?\\d+|throws \\w+)(: .+)?");
    private static final Pattern TEST_NAME = Pattern.compile("`(\\w+Test)(?:\\.(\\w+))?`");

    private final Map<String, Method> calls = new HashMap<>();
    private final Set<String> shown = new HashSet<>();
    private XmppPair x;

    public static void main(String[] args) throws IOException, ReflectiveOperationException {
        List<String> lines = Files.readAllLines(Path.of("README.md"));
        new ReadmeTest().examplesHold(lines);
        namedTestsAreThere(String.join("\n", lines));
        Check.finish();
    }

    private void examplesHold(List<String> lines) throws ReflectiveOperationException {
        for (Method method : XmppPair.class.getDeclaredMethods()) {
            if (Modifier.isPublic(method.getModifiers())) {
                calls.put(method.getName(), method);
            }
        }
        boolean inExample = false;
        for (String line : lines) {
            if (line.startsWith("```")) {
                inExample = line.equals("```java");
                x = null;
            } else if (inExample) {
                exampleLineHolds(line);
            }
        }
        Check.same("the calls that the examples show", shown, calls.keySet());
    }

    private void exampleLineHolds(String line) throws ReflectiveOperationException {
        if (line.equals(NEW_OBJECT)) {
            x = new XmppPair();
            return;
        }
        Matcher call = CALL.matcher(line);
        boolean understood = call.matches() && calls.containsKey(call.group(1)) && x != null;
        Check.same("whether this line is a call with its answer: " + line, understood, true);
        if (understood) {
            shown.add(call.group(1));
            Check.same(line, outcome(calls.get(call.group(1)), call.group(2)), call.group(3));
        }
    }

    private String outcome(Method method, String written) throws IllegalAccessException {
        try {
            return method.invoke(x, arguments(written)).toString();
        } catch (InvocationTargetException e) {
            return "throws " + e.getCause().getClass().getSimpleName();
        }
    }

    private static Object[] arguments(String written) {
        String[] texts = written.split(", ");
        Object[] values = new Object[texts.length];
        for (int i = 0; i < texts.length; i++) {
            boolean isTruth = texts[i].equals("true") || texts[i].equals("false");
            values[i] = isTruth ? (Object) Boolean.valueOf(texts[i]) : (Object) Integer.valueOf(texts[i]);
        }
        return values;
    }

    private static void namedTestsAreThere(String readme) throws IOException {
        Set<String> named = new HashSet<>();
        Matcher test = TEST_NAME.matcher(readme);
        while (test.find()) {
            named.add(test.group(1));
            if (test.group(2) != null) {
                Check.same("whether there is " + test.group(), hasMethod(test.group(1), test.group(2)), true);
            }
        }
        Check.same("the tests that README.md names", named, testsInTheProject());
    }

    private static boolean hasMethod(String test, String name) {
        try {
            for (Method method : Class.forName(test).getDeclaredMethods()) {
                if (method.getName().equals(name)) {
                    return true;
                }
            }
            return false;
        } catch (ClassNotFoundException e) {
            return false;
        }
    }

    private static Set<String> testsInTheProject() throws IOException {
        Set<String> tests = new HashSet<>();
        try (var files = Files.newDirectoryStream(Path.of("src/test/java"), "*Test.java")) {
            for (Path file : files) {
                tests.add(file.getFileName().toString().replace(".java", ""));
            }
        }
        return tests;
    }
}

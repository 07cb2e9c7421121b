import java.io.IOException;
import java.lang.reflect.InvocationTargetException;
import java.lang.reflect.Method;
import java.nio.file.Files;
import java.nio.file.Path;
import java.util.HashMap;
import java.util.HashSet;
import java.util.List;
import java.util.Map;
import java.util.Set;
import java.util.regex.Matcher;
import java.util.regex.Pattern;

/** The calls that README.md shows answer what it says, every method is shown, and every test is named. From the top of the checkout. */
public final class ReadmeTest {
    private static final Path PAGE = Path.of("README.md");
    private static final Path TESTS = Path.of("src/test/java");
    private static final String MADE = "Witnesshall hall = new Witnesshall();";
    private static final Pattern CALL =
        Pattern.compile("hall\\.(\\w+)\\((.*)\\);\\s+// (\"[^\"]*\"|true|false|-?\\d+|throws \\w+)(: .+)?");
    private static final Pattern TEST = Pattern.compile("`(\\w+Test)`");

    private final Map<String, Method> face = new HashMap<>();
    private final Set<String> shown = new HashSet<>();
    private Witnesshall hall;
    private int checks;
    private int wrong;

    private ReadmeTest() {
        for (Method method : Witnesshall.class.getMethods()) {
            if (method.getDeclaringClass() == Witnesshall.class) {
                face.put(method.getName(), method);
            }
        }
    }

    private void tell(String text) {
        wrong++;
        System.out.println(PAGE + ": " + text);
    }

    private void playBlocks(List<String> lines) throws IllegalAccessException {
        boolean isInside = false;
        for (int i = 0; i < lines.size(); i++) {
            String line = lines.get(i).strip();
            if (line.startsWith("```")) {
                isInside = line.equals("```java");
                hall = null;
            } else if (isInside && line.equals(MADE)) {
                hall = new Witnesshall();
            } else if (isInside && !line.isEmpty()) {
                playLine(i + 1, line);
            }
        }
    }

    private void playLine(int number, String line) throws IllegalAccessException {
        Matcher call = CALL.matcher(line);
        boolean isCall = call.matches();
        Method method = isCall ? face.get(call.group(1)) : null;
        if (method == null || hall == null) {
            tell("line " + number + " is no call of an office with its answer: " + line);
            return;
        }
        checks++;
        shown.add(method.getName());
        String got = answer(method, call.group(2));
        if (!got.equals(call.group(3))) {
            tell("line " + number + ": " + line + " answered " + got);
        }
    }

    private String answer(Method method, String told) throws IllegalAccessException {
        String[] texts = told.isEmpty() ? new String[0] : told.split(", ");
        Class<?>[] types = method.getParameterTypes();
        if (texts.length != types.length) {
            return texts.length + " arguments, not " + types.length;
        }
        Object[] arguments = new Object[texts.length];
        for (int i = 0; i < texts.length; i++) {
            arguments[i] = types[i] == boolean.class ? (Object) Boolean.valueOf(texts[i]) : Integer.valueOf(texts[i]);
        }
        try {
            Object got = method.invoke(hall, arguments);
            return got instanceof String ? "\"" + got + "\"" : got.toString();
        } catch (InvocationTargetException e) {
            return "throws " + e.getCause().getClass().getSimpleName();
        }
    }

    private void namesAll(List<String> lines) throws IOException {
        for (String name : face.keySet()) {
            if (!shown.contains(name)) {
                tell("no block calls " + name);
            }
        }
        Set<String> named = new HashSet<>();
        Matcher test = TEST.matcher(String.join("\n", lines));
        while (test.find()) {
            named.add(test.group(1));
        }
        Set<String> there = new HashSet<>();
        try (var files = Files.list(TESTS)) {
            files.map(file -> file.getFileName().toString()).filter(name -> name.endsWith("Test.java"))
                .forEach(name -> there.add(name.replace(".java", "")));
        }
        if (!named.equals(there)) {
            tell("tests named are " + named + ", there are " + there);
        }
    }

    public static void main(String[] args) throws IOException, IllegalAccessException {
        List<String> lines = Files.readAllLines(PAGE);
        ReadmeTest test = new ReadmeTest();
        test.playBlocks(lines);
        test.namesAll(lines);
        System.out.println(test.checks + " calls, " + test.wrong + " wrong");
        if (test.wrong > 0 || test.checks == 0) {
            System.exit(1);
        }
    }
}

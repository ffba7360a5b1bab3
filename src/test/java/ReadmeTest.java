import java.io.IOException;
import java.lang.reflect.InvocationTargetException;
import java.lang.reflect.Method;
import java.nio.file.Files;
import java.nio.file.Path;
import java.util.ArrayList;
import java.util.Arrays;
import java.util.List;
import java.util.Set;
import java.util.TreeSet;
import java.util.regex.Matcher;
import java.util.regex.Pattern;
import java.util.stream.Stream;

/** README.md tells each call as the class has it, its example answers as told, and it names all tests. */
final class ReadmeTest {
    private static final Due DUE = new Due("ReadmeTest");
    private static final Path README = Path.of("README.md");
    private static final Path TESTS = Path.of("src", "test", "java");
    private static final Pattern ROW = Pattern.compile("(?m)^\\| `([^`]+)` \\| (.+) \\| (.+) \\|$");
    private static final Pattern EXCEPTION = Pattern.compile("\\w+Exception");
    private static final Pattern EXAMPLE = Pattern.compile("(?s)```java\n(.*?)```");
    private static final Pattern CALL = Pattern.compile("x\\.(\\w+)\\(([-0-9, ]*)\\); +// (.+)");
    private static final Pattern ANSWER = Pattern.compile("(answers|throws) (-?\\w+)\\b.*");
    private static final String MAKING = "SlitWidths x = new SlitWidths();";

    public static void main(String[] args) throws IOException, ReflectiveOperationException {
        String readme = Files.readString(README);
        callsAreTold(readme);
        exampleHolds(readme);
        testsAreNamed(readme);
        DUE.end();
    }

    private static void callsAreTold(String readme) throws IOException {
        List<String> told = new ArrayList<>();
        Matcher row = ROW.matcher(readme);
        while (row.find()) {
            told.add(face(row.group(1), row.group(3)));
        }
        List<String> face = new Document().face();
        DUE.yes("the document's face is " + face + ", the calls told are " + told,
                face.isEmpty() || told.equals(face));
        DUE.is("calls told", told.size(), SlitWidths.class.getDeclaredConstructors().length
                + publicMethods().size());
    }

    private static String face(String signature, String exceptions) {
        List<String> names = new ArrayList<>();
        Matcher name = EXCEPTION.matcher(exceptions);
        while (name.find()) {
            names.add(name.group());
        }
        return names.isEmpty() ? signature : signature + " throws " + String.join(", ", names);
    }

    private static Set<String> publicMethods() {
        Set<String> names = new TreeSet<>();
        for (Method method : SlitWidths.class.getMethods()) {
            if (method.getDeclaringClass() == SlitWidths.class) {
                names.add(method.getName());
            }
        }
        return names;
    }

    private static void exampleHolds(String readme) throws ReflectiveOperationException {
        Matcher example = EXAMPLE.matcher(readme);
        if (!example.find()) {
            DUE.fault("there is no example");
            return;
        }
        SlitWidths x = new SlitWidths();
        Set<String> unused = publicMethods();
        for (String line : example.group(1).split("\n")) {
            Matcher call = CALL.matcher(line);
            if (call.matches()) {
                unused.remove(call.group(1));
                answersAsTold(x, call.group(1), numbers(call.group(2)), call.group(3));
            } else {
                DUE.yes("a line that is no call: " + line, line.equals(MAKING));
            }
        }
        DUE.yes("calls that the example leaves out: " + unused, unused.isEmpty());
    }

    private static Object[] numbers(String list) {
        if (list.isEmpty()) {
            return new Object[0];
        }
        return Stream.of(list.split(", ")).map(Integer::valueOf).toArray();
    }

    private static void answersAsTold(SlitWidths x, String name, Object[] numbers, String comment)
            throws ReflectiveOperationException {
        Class<?>[] types = new Class<?>[numbers.length];
        Arrays.fill(types, int.class);
        Method method = SlitWidths.class.getMethod(name, types);
        Matcher answer = ANSWER.matcher(comment);
        String told = answer.matches() ? answer.group(1) + " " + answer.group(2) : "nothing";
        String got;
        try {
            Object answered = method.invoke(x, numbers);
            got = answered == null ? "nothing" : "answers " + answered;
        } catch (InvocationTargetException e) {
            got = "throws " + e.getCause().getClass().getSimpleName();
        }
        DUE.yes(name + List.of(numbers) + " " + got + ", told is " + told, got.equals(told));
    }

    private static void testsAreNamed(String readme) throws IOException {
        try (Stream<Path> files = Files.list(TESTS)) {
            files.map(file -> file.getFileName().toString())
                    .filter(name -> name.endsWith("Test.java"))
                    .map(name -> name.substring(0, name.length() - ".java".length()))
                    .forEach(name -> DUE.yes(name + " is named", readme.contains("- `" + name + "`")));
        }
    }
}

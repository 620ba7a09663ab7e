import java.io.IOException;
import java.lang.reflect.InvocationTargetException;
import java.lang.reflect.Method;
import java.nio.file.DirectoryStream;
import java.nio.file.Files;
import java.nio.file.Path;
import java.util.ArrayList;
import java.util.List;
import java.util.Set;
import java.util.TreeSet;
import java.util.regex.Matcher;
import java.util.regex.Pattern;

/** README.md, as it lies in the working directory, tells the truth about the class and its tests. */
public final class ReadmeTest {
    private static final Path TESTS = Path.of("src/test/java");
    private static final Pattern CALL = Pattern.compile("x\\.(\\w+)\\(([^)]*)\\);\\s*// ([^:]+): .*");
    private static final Pattern NAME = Pattern.compile("`([A-Z]\\w*)`");

    private final Checks checks = new Checks();
    private final List<String> lines;

    private ReadmeTest(List<String> lines) {
        this.lines = lines;
    }

    public static void main(String[] args) throws IOException {
        ReadmeTest test = new ReadmeTest(Files.readAllLines(Path.of("README.md")));
        Set<String> files = javaFiles();
        test.checks.about("README.md: each call is followed by its answer", test::calls);
        test.checks.about("README.md: the tests and their helpers", () -> test.names(files));
        test.checks.finish();
    }

    private static Set<String> javaFiles() throws IOException {
        Set<String> names = new TreeSet<>();
        try (DirectoryStream<Path> files = Files.newDirectoryStream(TESTS, "*.java")) {
            for (Path file : files) {
                names.add(file.getFileName().toString().replace(".java", ""));
            }
        }
        return names;
    }

    private void calls() {
        PropertyTrie x = new PropertyTrie();
        Set<String> shown = new TreeSet<>();
        for (String line : lines) {
            if (line.startsWith("x.")) {
                Matcher call = CALL.matcher(line);
                checks.due("a call and its answer: " + line, call.matches(), true);
                shown.add(call.group(1));
                String answer = answer(x, call.group(1), call.group(2));
                checks.due(line + " (it is " + answer + ")", answer.equals(call.group(3)), true);
            }
        }
        Set<String> face = Set.of("set", "mark", "get", "change", "alike", "hash", "clear");
        checks.due("the calls " + shown + " are " + face, shown.equals(face), true);
    }

    private static String answer(PropertyTrie x, String name, String numbers) {
        List<Object> arguments = new ArrayList<>();
        for (String number : numbers.split(", ")) {
            if (!number.isEmpty()) {
                arguments.add(Integer.valueOf(number));
            }
        }
        try {
            return String.valueOf(method(name).invoke(x, arguments.toArray()));
        } catch (InvocationTargetException e) {
            return e.getCause().getClass().getSimpleName();
        } catch (IllegalAccessException e) {
            return name + " is not public";
        }
    }

    private static Method method(String name) {
        for (Method method : PropertyTrie.class.getMethods()) {
            if (method.getName().equals(name)) {
                return method;
            }
        }
        throw new IllegalArgumentException("no method " + name);
    }

    private void names(Set<String> files) {
        Set<String> named = new TreeSet<>();
        for (String line : lines) {
            Matcher name = NAME.matcher(line);
            while (name.find()) {
                named.add(name.group(1));
            }
        }
        checks.due("the names " + named + " are " + files, named.equals(files), true);
    }
}

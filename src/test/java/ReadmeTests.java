import java.io.IOException;
import java.lang.reflect.Method;
import java.lang.reflect.Modifier;
import java.nio.file.Files;
import java.nio.file.Path;
import java.util.ArrayList;
import java.util.HashMap;
import java.util.HashSet;
import java.util.List;
import java.util.Map;
import java.util.Set;
import java.util.TreeSet;
import java.util.regex.Matcher;
import java.util.regex.Pattern;
import java.util.stream.Stream;

/** README.md tells rows with what they answer, and names tests: both must be as the class and .ci/run do. */
public final class ReadmeTests {
    private static final Pattern NEW = Pattern.compile(" {4}MarkedByNext x = new MarkedByNext\\(\\);");
    private static final Pattern TYPED =
            Pattern.compile(" {4}for \\(char b : \"([^\"]*)\"\\.toCharArray\\(\\)\\) x\\.type\\(([01]), b\\);.*");
    private static final Pattern ROW = Pattern.compile(" {4}x\\.(\\w+)\\(([^)]*)\\); *// (-?\\d+)(: .*)?");

    private final Check check = new Check();
    private final Map<String, Method> face = new HashMap<>();
    private final Set<String> shown = new HashSet<>();
    private MarkedByNext x = new MarkedByNext();

    public static void main(String[] args) throws Exception {
        ReadmeTests t = new ReadmeTests();
        String page = Files.readString(Path.of("README.md"));
        t.rows(page);
        t.names(page);
        t.run(page);
        t.check.end();
    }

    private ReadmeTests() {
        for (Method m : MarkedByNext.class.getDeclaredMethods()) {
            if (Modifier.isPublic(m.getModifiers())) {
                face.put(m.getName(), m);
            }
        }
    }

    private void rows(String page) throws ReflectiveOperationException {
        String use = page.substring(page.indexOf("## Use"), page.indexOf("## Tests"));
        for (String line : use.split("\n")) {
            if (line.startsWith("    ")) {
                row(line);
            }
        }
        for (String name : face.keySet()) {
            check.holds("README.md shows " + name, shown.contains(name));
        }
    }

    private void row(String line) throws ReflectiveOperationException {
        Matcher typed = TYPED.matcher(line);
        Matcher asked = ROW.matcher(line);
        if (NEW.matcher(line).matches()) {
            x = new MarkedByNext();
        } else if (typed.matches()) {
            Check.typeIn(x, Integer.parseInt(typed.group(2)), typed.group(1));
        } else if (asked.matches() && face.containsKey(asked.group(1))) {
            shown.add(asked.group(1));
            Number got = (Number) face.get(asked.group(1)).invoke(x, numbers(asked.group(2)));
            check.due("README.md:" + line, got.longValue(), Long.parseLong(asked.group(3)));
        } else {
            check.holds("README.md: a row that can be run:" + line, false);
        }
    }

    private static Object[] numbers(String told) {
        List<Object> all = new ArrayList<>();
        for (String one : told.split(", ")) {
            if (one.matches("'.'")) {
                all.add((int) one.charAt(1));
            } else if (!one.isEmpty()) {
                all.add(Integer.parseInt(one));
            }
        }
        return all.toArray();
    }

    /** The list names all tests that .ci/run finds and no other, and no helper that there is not. */
    private void names(String page) throws IOException {
        Set<String> there = new TreeSet<>();
        try (Stream<Path> files = Files.list(Path.of("src/test/java"))) {
            files.forEach(f -> there.add(f.getFileName().toString().replace(".java", "")));
        }
        String tests = page.substring(page.indexOf("## Tests"));
        Set<String> named = new TreeSet<>();
        Matcher names = Pattern.compile("`([A-Z]\\w+)`").matcher(tests);
        while (names.find()) {
            named.add(names.group(1));
        }
        for (String name : named) {
            check.holds("README.md names " + name + ", which is there", there.contains(name));
        }
        for (String name : there) {
            check.holds("README.md names " + name, !name.endsWith("Tests") || tests.contains("\n- `" + name + "`:"));
        }
    }

    private void run(String page) throws IOException {
        Path script = Path.of(".ci/run");
        String code = Files.readString(script);
        check.holds("README.md says how to run the tests", page.contains("\n    .ci/run\n"));
        check.holds(".ci/run can be run", Files.isExecutable(script));
        check.holds(".ci/run runs shared tests", code.contains("../shared/tests"));
        check.holds(".ci/run runs the project's tests", code.contains("src/test/java/*Tests.java"));
        check.holds(".ci/run builds under build/", code.contains("build/own"));
    }
}

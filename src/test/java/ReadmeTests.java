import java.io.IOException;
import java.lang.reflect.Method;
import java.nio.file.Files;
import java.nio.file.Path;
import java.util.List;
import java.util.Map;
import java.util.Set;
import java.util.TreeSet;
import java.util.regex.Matcher;
import java.util.regex.Pattern;
import java.util.stream.Collectors;
import java.util.stream.IntStream;
import java.util.stream.Stream;

/** README.md's examples, run as they stand there: the comment behind a call begins with its answer. */
public final class ReadmeTests {
    private static final Check check = new Check("ReadmeTests");
    private static final Path README = Path.of("README.md"), TESTS = Path.of("src/test/java");
    private static final String MAKING = "LivingNumbers x = new LivingNumbers();";
    private static final Pattern TEXT = Pattern.compile("String text = \"([^\"]+)\";");
    private static final Pattern CALL = Pattern.compile("x\\.(\\w+)\\(([-0-9, ]*)\\); *// (-?\\w+)\\b.*");
    private static final List<String> FILLING = List.of(
        "for (int i = 0; i < text.length(); i++) {", "    x.put(1, i, text.charAt(i));", "}");
    private static final Map<String, Long> NAMES = Map.of("UNKNOWN", (long) LivingNumbers.UNKNOWN,
        "OUTSIDE", (long) LivingNumbers.OUTSIDE, "NONE", (long) LivingNumbers.NONE, "LOST", LivingNumbers.LOST);

    private static final Map<String, Method> METHODS = Stream.of(LivingNumbers.class.getMethods())
        .filter(method -> method.getDeclaringClass() == LivingNumbers.class)
        .collect(Collectors.toMap(Method::getName, method -> method));
    private static final Set<String> called = new TreeSet<>();

    private static LivingNumbers x = new LivingNumbers();
    private static String text = "";

    public static void main(String[] args) throws Exception {
        List<String> lines = Files.readAllLines(README);
        theExamples(lines);
        check.same("what of the face no example calls", uncalled(), Set.of());
        theTable(lines);
        check.close();
    }

    private static void theExamples(List<String> lines) throws ReflectiveOperationException {
        boolean inside = false;
        for (String line : lines) {
            if (line.startsWith("```")) {
                inside = line.equals("```java");
            } else if (inside) {
                run(line);
            }
        }
    }

    private static void run(String line) throws ReflectiveOperationException {
        Matcher told = TEXT.matcher(line);
        Matcher call = CALL.matcher(line);
        if (line.equals(MAKING)) {
            x = new LivingNumbers();
        } else if (told.matches()) {
            text = told.group(1);
        } else if (FILLING.contains(line)) {
            fill(FILLING.indexOf(line));
        } else if (call.matches() && METHODS.containsKey(call.group(1))) {
            called.add(call.group(1));
            check.due(line, answer(METHODS.get(call.group(1)), call.group(2)), due(call.group(3)));
        } else {
            check.holds("a line of an example that can be run: " + line, false);
        }
    }

    /** The loop is run as a whole, with the second of its lines. */
    private static void fill(int at) {
        if (at == 1) {
            IntStream.range(0, text.length())
                .forEach(i -> check.due("put(1, " + i + ", ..)", x.put(1, i, text.charAt(i)), 1));
        }
    }

    private static long answer(Method method, String arguments) throws ReflectiveOperationException {
        Object[] values = Stream.of(arguments.split(",")).map(String::strip).filter(one -> !one.isEmpty())
            .map(Integer::valueOf).toArray();
        return ((Number) method.invoke(x, values)).longValue();
    }

    private static long due(String answer) {
        return NAMES.containsKey(answer) ? NAMES.get(answer) : Long.parseLong(answer);
    }

    private static Set<String> uncalled() {
        Set<String> names = new TreeSet<>(METHODS.keySet());
        names.removeAll(called);
        return names;
    }

    private static void theTable(List<String> lines) throws IOException {
        Set<String> named = lines.stream().map(line -> line.split("`"))
            .filter(parts -> parts.length > 2 && parts[0].equals("| ") && parts[1].endsWith("Tests"))
            .map(parts -> parts[1]).collect(Collectors.toCollection(TreeSet::new));
        try (Stream<Path> files = Files.list(TESTS)) {
            check.same("the tests that the table names", named, files.map(file -> file.getFileName().toString())
                .filter(name -> name.endsWith("Tests.java")).map(name -> name.substring(0, name.length() - 5))
                .collect(Collectors.toCollection(TreeSet::new)));
        }
    }
}

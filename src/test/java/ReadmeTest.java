import java.io.IOException;
import java.lang.reflect.Method;
import java.lang.reflect.Modifier;
import java.nio.charset.StandardCharsets;
import java.nio.file.Files;
import java.nio.file.Path;
import java.util.HashMap;
import java.util.List;
import java.util.Map;
import java.util.Set;
import java.util.TreeSet;
import java.util.regex.Matcher;
import java.util.regex.Pattern;
import java.util.stream.Collectors;
import java.util.stream.Stream;

/** README.md holds: its calls answer what it says, and it names every call and every test. Run from the project's folder. */
public final class ReadmeTest {
    private static final Pattern CALL = Pattern.compile("(?m)^x\\.(\\w+)\\(([^)]*)\\); *// (-?\\d+)");

    public static void main(String[] args) throws IOException, ReflectiveOperationException {
        String readme = Files.readString(Path.of("README.md"));
        textIsFed(readme);
        callsAnswer(readme);
        everyCallIsNamed(readme);
        everyTestIsNamed(readme);
        testsAreRunByCi(readme);
        Check.finish();
    }

    private static String block(String readme, String kind) {
        Matcher m = Pattern.compile("(?s)```" + kind + "\n(.*?)```").matcher(readme);
        return m.find() ? m.group(1) : "";
    }

    private static int[] numbers(String list) {
        return Stream.of(list.split(",")).map(String::strip).filter(s -> !s.isEmpty()).mapToInt(Integer::decode).toArray();
    }

    /** The bytes of the example are the text that stands above it. */
    private static void textIsFed(String readme) {
        byte[] text = block(readme, "text").getBytes(StandardCharsets.ISO_8859_1);
        Matcher m = CALL.matcher(block(readme, "java"));
        int from = 0;
        while (m.find()) {
            if (m.group(1).equals("feed")) {
                for (int number : numbers(m.group(2))) {
                    for (int i = 0; i < 4; i++) {
                        int want = from < text.length ? text[from] : ' ';
                        Check.due("README byte " + from, number >> 24 - 8 * i & 255, want);
                        from++;
                    }
                }
            } else if (m.group(1).equals("end")) {
                Check.due("README end", numbers(m.group(2))[0], text.length);
            }
        }
        Check.due("README feeds enough", from >= text.length && text.length > 0 ? 1 : 0, 1);
    }

    private static void callsAnswer(String readme) throws ReflectiveOperationException {
        Map<String, Method> face = face();
        GooseShares x = new GooseShares();
        String example = block(readme, "java");
        Matcher m = CALL.matcher(example);
        int many = 0;
        while (m.find()) {
            Method method = face.get(m.group(1));
            int[] given = numbers(m.group(2));
            Object[] arguments = new Object[given.length];
            for (int i = 0; i < given.length; i++) {
                boolean isLong = method.getParameterTypes()[i] == long.class;
                arguments[i] = isLong ? (Object) Long.valueOf(given[i]) : (Object) Integer.valueOf(given[i]);
            }
            Check.due("README " + m.group(), (Integer) method.invoke(x, arguments), Integer.parseInt(m.group(3)));
            many++;
        }
        Check.due("README calls without an answer", example.lines().filter(s -> s.startsWith("x.")).count(), many);
    }

    private static Map<String, Method> face() {
        Map<String, Method> face = new HashMap<>();
        for (Method m : GooseShares.class.getDeclaredMethods()) {
            if (Modifier.isPublic(m.getModifiers())) {
                face.put(m.getName(), m);
            }
        }
        return face;
    }

    private static void everyCallIsNamed(String readme) {
        List<String> rows = readme.lines().filter(s -> s.startsWith("| ")).collect(Collectors.toList());
        Set<String> named = new TreeSet<>();
        int many = 0;
        for (String row : rows) {
            Matcher m = Pattern.compile("`(\\w+)`").matcher(row);
            while (m.find()) {
                named.add(m.group(1));
                many++;
            }
        }
        Check.due("README names just the calls, once each", named.equals(face().keySet()) && many == named.size() ? 1 : 0, 1);
    }

    private static void everyTestIsNamed(String readme) throws IOException {
        Set<String> there = new TreeSet<>();
        try (Stream<Path> files = Files.list(Path.of("src/test/java"))) {
            files.map(p -> p.getFileName().toString()).filter(s -> s.endsWith("Test.java"))
                    .forEach(s -> there.add(s.substring(0, s.length() - ".java".length())));
        }
        for (String test : there) {
            Check.due("README names " + test, readme.contains("`" + test + "`") ? 1 : 0, 1);
        }
        Matcher m = Pattern.compile("`(\\w+Test)`").matcher(readme);
        while (m.find()) {
            Check.due("there is " + m.group(1), there.contains(m.group(1)) ? 1 : 0, 1);
        }
    }

    private static void testsAreRunByCi(String readme) {
        Check.due("README runs the tests by .ci/run", block(readme, "sh").strip().equals(".ci/run") ? 1 : 0, 1);
        Check.due(".ci/run can be run", Files.isExecutable(Path.of(".ci/run")) ? 1 : 0, 1);
    }
}

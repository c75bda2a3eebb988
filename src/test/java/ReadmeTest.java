import java.io.IOException;
import java.lang.reflect.Method;
import java.nio.file.Files;
import java.nio.file.Path;
import java.util.HashMap;
import java.util.HashSet;
import java.util.List;
import java.util.Map;
import java.util.Set;
import java.util.regex.Matcher;
import java.util.regex.Pattern;
import java.util.stream.Collectors;
import java.util.stream.Stream;

/** The calls of README.md answer what stands behind them, and it leaves out no call and no test. */
public final class ReadmeTest {
    private static final Path README = Path.of("README.md");
    private static final Path TESTS = Path.of("src/test/java");
    private static final String MADE = "FeedModulus casting = new FeedModulus();";
    private static final Pattern CALL = Pattern.compile(
            "(?:(?<type>int|long) (?<kept>\\w+) = )?casting\\.(?<name>\\w+)\\((?<given>[^)]*)\\);"
            + "(?: +// (?<behind>.+))?");
    private static final Pattern ANSWER = Pattern.compile("(-?\\d+)(?:,.*)?");
    private static final Pattern THROWN = Pattern.compile("throws (\\w+)(?:: .*)?");

    private final Map<String, Method> face = new HashMap<>();
    private final Map<String, Integer> names = new HashMap<>();
    private final Set<String> called = new HashSet<>();
    private FeedModulus object;
    private Model model;
    private int calls;

    private ReadmeTest() {
        for (Method method : FeedModulus.class.getMethods()) {
            if (method.getDeclaringClass() == FeedModulus.class) {
                face.put(method.getName(), method);
            }
        }
    }

    public static void main(String[] args) throws IOException {
        List<String> lines = Files.readAllLines(README);
        ReadmeTest test = new ReadmeTest();
        boolean inside = false;
        for (String line : lines) {
            if (line.startsWith("```")) {
                inside = line.equals("```java");
            } else if (inside && !line.isEmpty()) {
                test.take(line);
            }
        }
        Check.holds("README calls the whole face, not only " + test.called,
                test.called.equals(test.face.keySet()));
        Check.holds("README stays within the promised calls", test.calls <= Run.MOST_CALLS);
        tellsOfEachTest(String.join("\n", lines));
        Check.end();
    }

    private static void tellsOfEachTest(String readme) throws IOException {
        try (Stream<Path> files = Files.list(TESTS)) {
            for (Path file : files.collect(Collectors.toList())) {
                String name = file.getFileName().toString().replace(".java", "");
                Check.holds("README tells of " + name, readme.contains("`" + name + "`"));
            }
        }
        Matcher told = Pattern.compile("`(\\w+Test)`").matcher(readme);
        while (told.find()) {
            Check.holds("there is a " + told.group(1),
                    Files.exists(TESTS.resolve(told.group(1) + ".java")));
        }
    }

    private void take(String line) {
        if (line.equals(MADE)) {
            Check.holds("README makes one object", object == null);
            object = new FeedModulus();
            model = new Model();
            return;
        }
        Matcher call = CALL.matcher(line);
        boolean readable = call.matches() && object != null && face.containsKey(call.group("name"));
        Check.holds("README's line is a call: " + line, readable);
        if (readable) {
            ask(line, call);
        }
    }

    private void ask(String line, Matcher read) {
        Method method = face.get(read.group("name"));
        String type = method.getReturnType().getSimpleName();
        String kept = read.group("kept");
        Check.holds("what is kept is of the answer's type: " + line,
                kept == null || type.equals(read.group("type")));
        Call call = new Call(read.group("name"), numbers(line, read.group("given"), method));
        Call.Outcome due = due(line, read.group("behind"), type.equals("void"));
        calls++;
        called.add(call.name());
        Check.same("README: " + line, due, call.on(object));
        // The second telling of the document, so that README and the class are not wrong together.
        Check.same("README, held against the model: " + line, due, call.on(model));
        if (kept != null) {
            Check.holds("a name is given once: " + line, !names.containsKey(kept));
            names.put(kept, (int) due.answer());
        }
    }

    private int[] numbers(String line, String given, Method method) {
        String[] words = given.split(", ");
        Class<?>[] types = method.getParameterTypes();
        Check.holds("the call has its parameters: " + line, words.length == types.length);
        int[] numbers = new int[words.length];
        for (int place = 0; place < words.length; place++) {
            String word = words[place];
            boolean isTruth = word.equals("true") || word.equals("false");
            Check.holds(word + " is of its parameter's type: " + line,
                    place < types.length && isTruth == (types[place] == boolean.class));
            numbers[place] = isTruth ? (word.equals("true") ? 1 : 0)
                    : names.containsKey(word) ? names.get(word) : Integer.parseInt(word);
        }
        return numbers;
    }

    private static Call.Outcome due(String line, String behind, boolean isVoid) {
        Matcher thrown = THROWN.matcher(behind == null ? "" : behind);
        if (thrown.matches()) {
            return new Call.Outcome(0, exception(thrown.group(1)));
        }
        Matcher answer = ANSWER.matcher(behind == null ? "" : behind);
        boolean isTold = answer.matches();
        Check.holds("an answer stands behind a call that has one: " + line, isTold != isVoid);
        return new Call.Outcome(isTold ? Long.parseLong(answer.group(1)) : 0, null);
    }

    private static Class<?> exception(String name) {
        for (Class<?> known : new Class<?>[] {
            Check.INDEX, Check.TURN, Check.RANGE, Check.MEANING,
        }) {
            if (known.getSimpleName().equals(name)) {
                return known;
            }
        }
        throw new Error("README names an unknown exception: " + name);
    }
}

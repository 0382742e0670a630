import java.io.IOException;
import java.lang.reflect.InvocationTargetException;
import java.lang.reflect.Method;
import java.lang.reflect.Modifier;
import java.nio.file.Files;
import java.nio.file.Path;
import java.util.List;
import java.util.Set;
import java.util.TreeSet;
import java.util.regex.Matcher;
import java.util.regex.Pattern;
import java.util.stream.Collectors;
import java.util.stream.Stream;

/** What README.md says is so: each call in it is made, and its answer held against the one that stands behind it. */
public final class ReadmeTest {
    private static final Pattern BLOCK = Pattern.compile("(?s)```java\\n(.*?)```");
    private static final Pattern CALL = Pattern.compile("keeper\\.(\\w+)\\(([^)]*)\\);(?: +// (throws \\w+|[\\w-]+)(?:: .*)?)?");
    private static final Pattern KIND = Pattern.compile("(?m)^\\| (\\d) \\| `(\\w+)` \\| (.*?) ?\\| .*\\|$");
    private static final Pattern BOUNDS = Pattern.compile("[A-Z] \\((-?\\d+) to (\\d+)\\)");
    private static final Pattern ROW = Pattern.compile("(?m)^\\| `(\\w+Test)` \\|");
    private static final String MADE = "SlopeKeeper keeper = new SlopeKeeper();";
    private static final Path TESTS = Path.of("src/test/java");

    private final Due due = new Due();
    private final Set<String> called = new TreeSet<>();
    private SlopeKeeper keeper;

    public static void main(String[] args) throws IOException {
        new ReadmeTest().go(Files.readString(Path.of("README.md")));
    }

    private void go(String page) throws IOException {
        Matcher blocks = BLOCK.matcher(page);
        while (blocks.find()) {
            keeper = null;
            blocks.group(1).lines().forEach(this::line);
        }
        Set<String> face = publicMethods().map(Method::getName).collect(Collectors.toCollection(TreeSet::new));
        due.same("calls that are shown " + called + " of " + face, 1, called.equals(face) ? 1 : 0);
        kinds(page);
        tests(page);
        due.end();
    }

    private static Stream<Method> publicMethods() {
        return Stream.of(SlopeKeeper.class.getDeclaredMethods()).filter(method -> Modifier.isPublic(method.getModifiers()));
    }

    private void line(String line) {
        if (line.equals(MADE)) {
            keeper = new SlopeKeeper();
            return;
        }
        Matcher call = CALL.matcher(line);
        boolean readable = keeper != null && call.matches();
        due.same("README.md, a call can be read: " + line, 1, readable ? 1 : 0);
        if (readable) {
            called.add(call.group(1));
            String said = call.group(3) == null ? "nothing" : call.group(3);
            String got = answer(call.group(1), call.group(2));
            due.same("README.md, " + line + " is " + got + ", not " + said, 1, got.equals(said) ? 1 : 0);
        }
    }

    private String answer(String name, String numbers) {
        List<String> told = Stream.of(numbers.split(", ")).filter(number -> !number.isEmpty()).toList();
        Method method = publicMethods().filter(one -> one.getName().equals(name) && one.getParameterCount() == told.size()).findFirst().orElse(null);
        if (method == null) {
            return "no call";
        }
        Object[] given = new Object[told.size()];
        for (int i = 0; i < given.length; i++) {
            long number = told.get(i).equals("SlopeKeeper.NONE") ? SlopeKeeper.NONE : Long.decode(told.get(i));
            given[i] = method.getParameterTypes()[i] == long.class ? (Object) number : (Object) (int) number;
        }
        try {
            Object answer = method.invoke(keeper, given);
            return answer == null ? "nothing" : answer.toString();
        } catch (InvocationTargetException e) {
            return "throws " + e.getCause().getClass().getSimpleName();
        } catch (IllegalAccessException e) {
            return "no call";
        }
    }

    /** The table of steps: each word tells its kind, and its numbers are taken up to their bounds and no farther. */
    private void kinds(String page) {
        Matcher rows = KIND.matcher(page);
        int many = 0;
        while (rows.find()) {
            int kind = Integer.parseInt(rows.group(1));
            due.same("kinds in their order", many, kind);
            many++;
            List<int[]> bounds = BOUNDS.matcher(rows.group(3)).results()
                .map(found -> new int[] {Integer.parseInt(found.group(1)), Integer.parseInt(found.group(2))}).toList();
            word(kind, rows.group(2), bounds.size());
            for (int i = 0; i < bounds.size(); i++) {
                bound(kind, i, bounds.get(i));
            }
        }
        due.same("kinds of steps", 9, many);
    }

    private void word(int kind, String word, int numbers) {
        SlopeKeeper told = new SlopeKeeper();
        told.does(1, kind, 0, 0);
        due.same("the word of kind " + kind, 1, Due.told(told, 1).equals(word + " 0".repeat(numbers) + ";") ? 1 : 0);
    }

    private void bound(int kind, int i, int[] bounds) {
        for (int number : new int[] {bounds[0] - 1, bounds[0], bounds[1], bounds[1] + 1}) {
            boolean fits = number >= bounds[0] && number <= bounds[1];
            // 'and' of the cost itself is refused for another reason than its bounds.
            SlopeKeeper told = new SlopeKeeper();
            int cost = kind == 8 && number == 1 ? 0 : 1;
            due.same("kind " + kind + " with " + number, fits ? 1 : SlopeKeeper.NONE, told.does(cost, kind, i == 0 ? number : 0, i == 1 ? number : 0));
        }
    }

    private void tests(String page) throws IOException {
        Set<String> named = ROW.matcher(page).results().map(row -> row.group(1)).collect(Collectors.toCollection(TreeSet::new));
        try (Stream<Path> files = Files.list(TESTS)) {
            Set<String> all = files.map(file -> file.getFileName().toString().replace(".java", "")).collect(Collectors.toCollection(TreeSet::new));
            for (String name : all) {
                due.same("README.md names " + name, 1, page.contains("`" + name + "`") ? 1 : 0);
            }
            all.removeIf(name -> !name.endsWith("Test"));
            due.same("tests in the table " + named + " of " + all, 1, named.equals(all) ? 1 : 0);
        }
    }
}

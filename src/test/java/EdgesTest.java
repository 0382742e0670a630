import java.io.IOException;
import java.lang.reflect.Constructor;
import java.lang.reflect.Method;
import java.lang.reflect.Modifier;
import java.nio.file.Path;
import java.util.Arrays;
import java.util.List;
import java.util.Set;
import java.util.TreeSet;
import java.util.regex.Matcher;
import java.util.regex.Pattern;
import java.util.stream.Collectors;

/** Each sentence of the document by itself, at its edges; what the document says and no test quotes is a fault too. */
public final class EdgesTest {
    private static final Pattern FACE = Pattern.compile("(?m)^    public (?:(\\w+) )?(\\w+)\\(([^)]*)\\)(?: throws ([\\w, ]+))?;$");

    public static void main(String[] args) throws IOException {
        Due due = new Due();
        Book book = new Book(due, Path.of("../shared/DOC.md"));
        if (book.isThere()) {
            face(due, book.document());
        }
        for (Edges edges : List.of(new StepEdges(book, due), new TextEdges(book, due), new ActEdges(book, due), new CurveEdges(book, due),
            new PathEdges(book, due), new PairEdges(book, due), new WeightEdges(book, due), new YearEdges(book, due))) {
            edges.all();
        }
        book.allIsQuoted();
        due.end();
    }

    /** What "The public face" says of each call: what it answers and takes, and what it throws. */
    private static void face(Due due, String document) {
        Set<String> said = new TreeSet<>();
        Matcher lines = FACE.matcher(document);
        while (lines.find()) {
            String taken = Arrays.stream(lines.group(3).split(", ")).map(word -> word.replaceAll(" .*", "")).collect(Collectors.joining(","));
            said.add((lines.group(1) == null ? "" : lines.group(1)) + " " + lines.group(2) + "(" + taken + ") "
                + (lines.group(4) == null ? "" : lines.group(4).replace(" ", "")));
        }
        Set<String> found = new TreeSet<>();
        for (Method method : SlopeKeeper.class.getDeclaredMethods()) {
            if (Modifier.isPublic(method.getModifiers())) {
                found.add(method.getReturnType().getName() + " " + method.getName() + "(" + names(method.getParameterTypes()) + ") "
                    + names(method.getExceptionTypes()));
            }
        }
        for (Constructor<?> made : SlopeKeeper.class.getDeclaredConstructors()) {
            found.add(" " + made.getName() + "(" + names(made.getParameterTypes()) + ") " + names(made.getExceptionTypes()));
        }
        due.same("the public face " + said + " is not " + found, 1, said.equals(found) ? 1 : 0);
        due.same("calls of the face", 39, found.size());
    }

    private static String names(Class<?>[] types) {
        return Arrays.stream(types).map(Class::getSimpleName).collect(Collectors.joining(","));
    }
}

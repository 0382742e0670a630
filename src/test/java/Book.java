import java.io.IOException;
import java.nio.file.Files;
import java.nio.file.Path;
import java.util.Arrays;
import java.util.LinkedHashMap;
import java.util.Map;
import java.util.regex.Matcher;
import java.util.regex.Pattern;

/** The document by its parts, and which of their words the test of a sentence has quoted. */
final class Book {
    private static final Pattern PROMISE = Pattern.compile("(?m)^## (Promise \\d+): .*\\n\\n`[^`]*`: ?(.*)$");
    private static final Pattern CONSTANT = Pattern.compile("(?m)^(?:The constants: )?(`\\w+ = -?\\d+`: .*)$");
    private static final Pattern TERM = Pattern.compile("(?s)==== (\\d)\\. (.*?)(?=\\n==== |\\nThe constants:)");

    private final Due due;
    private final String document;
    private final Map<String, String> parts = new LinkedHashMap<>();
    private final Map<String, boolean[]> quoted = new LinkedHashMap<>();

    /** Without the document the tests run all the same; only what they quote can't be held against it. */
    Book(Due due, Path path) throws IOException {
        this.due = due;
        if (!Files.exists(path)) {
            System.out.println(path + " is not there: what is quoted is not looked at");
            document = "";
            return;
        }
        document = Files.readString(path);
        Matcher terms = TERM.matcher(document);
        while (terms.find()) {
            add("Terms " + terms.group(1), terms.group(2).replaceAll("```(text)?", " "));
        }
        Matcher constants = CONSTANT.matcher(document);
        StringBuilder told = new StringBuilder();
        while (constants.find()) {
            told.append(constants.group(1)).append(' ');
        }
        add("Constants", told.toString());
        Matcher promises = PROMISE.matcher(document);
        while (promises.find()) {
            add(promises.group(1), promises.group(2));
        }
        due.same("parts of the document", 3 + 1 + 39, parts.size());
    }

    boolean isThere() {
        return !document.isEmpty();
    }

    String document() {
        return document;
    }

    private void add(String name, String text) {
        String plain = text.replaceAll("\\s+", " ").trim();
        parts.put(name, plain);
        quoted.put(name, new boolean[plain.length()]);
    }

    /** A sentence counts wherever it stands in its part. */
    void quote(String part, String sentence) {
        if (!isThere()) {
            return;
        }
        String text = parts.getOrDefault(part, "");
        int at = text.indexOf(sentence);
        due.same(part + " does not say: " + sentence, 1, at >= 0 ? 1 : 0);
        while (at >= 0) {
            Arrays.fill(quoted.get(part), at, at + sentence.length(), true);
            at = text.indexOf(sentence, at + 1);
        }
    }

    void allIsQuoted() {
        parts.forEach((part, text) -> {
            StringBuilder left = new StringBuilder();
            for (int i = 0; i < text.length(); i++) {
                left.append(quoted.get(part)[i] ? ' ' : text.charAt(i));
            }
            String words = left.toString().replaceAll("[^\\w']+", " ").trim();
            due.same(part + " says, and no test quotes: " + words, 0, words.length());
        });
    }
}

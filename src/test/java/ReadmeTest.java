import java.io.IOException;
import java.nio.file.Files;
import java.nio.file.Path;
import java.util.regex.Matcher;
import java.util.regex.Pattern;

/** The example in README.md: each call in it gives the answer that stands behind it. */
public final class ReadmeTest extends Setting {
    private static final Pattern CALL =
            Pattern.compile("names\\.(\\w+)\\(([^)]*)\\); +// (-?\\d+|[A-Z_]+)\\b.*");

    private static int due(String answer) {
        if (answer.matches("-?\\d+")) {
            return Integer.parseInt(answer);
        }
        try {
            return ViewedNames.class.getField(answer).getInt(null);
        } catch (ReflectiveOperationException e) {
            throw new IllegalStateException(answer + " is no constant", e);
        }
    }

    private static void example(String readme) {
        ViewedNames names = new ViewedNames();
        String code = readme.replaceAll("(?s).*```java\n(.*?)```.*", "$1");
        for (String line : code.split("\n")) {
            Matcher call = CALL.matcher(line);
            if (call.matches()) {
                String words = call.group(1) + " " + call.group(2).replace(",", "");
                Due.is(line, call(names, words.trim()), due(call.group(3)));
            } else {
                Due.holds("no call with an answer: " + line, line.isEmpty()
                        || line.equals("ViewedNames names = new ViewedNames();"));
            }
        }
    }

    public static void main(String[] args) throws IOException {
        String readme = Files.readString(Path.of("README.md"));
        example(readme);
        Due.holds("README.md says how to run the tests", readme.contains("\n    .ci/run\n"));
        Due.holds("the example has calls", Due.checked() > 10);
        Due.end();
    }
}

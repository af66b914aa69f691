import java.io.IOException;
import java.lang.reflect.Field;
import java.lang.reflect.Method;
import java.lang.reflect.Modifier;
import java.nio.file.Files;
import java.nio.file.Path;
import java.util.Arrays;
import java.util.Map;
import java.util.Set;
import java.util.TreeMap;
import java.util.TreeSet;
import java.util.regex.Matcher;
import java.util.regex.Pattern;

/** The public face, and the rules of LANGUAGE.md that the source text shows. */
public final class LanguageTest {
    private static final Path SOURCE = Path.of("src/main/java/ViewedNames.java");
    private static final String[] FACE = {
        "pass 1", "time 0", "addNet 3", "removeNet 1", "viewOf 2", "addZone 2", "removeZone 1",
        "zoneInfo 2", "count 1", "set 4", "clear 3", "record 4", "serial 2", "change 3", "lay 1",
        "answer 4", "viewAnswer 4", "zoneFor 3", "source 4", "differences 4", "difference 5",
        "split 4", "since 3", "seenBy 4", "setKeeping 1", "ask 3", "stale 0", "type 1",
        "clearText 0", "fault 0"};
    private static final String[] CONSTANTS = {
        "INVALID_ARGUMENT -1", "NOT_POSSIBLE -2", "LIMIT_REACHED -3", "NOT_FOUND -4",
        "NO_ZONE -11", "NO_NAME -12", "NO_DATA -13", "TOO_LONG -14"};
    private static final String FORBIDDEN = "\\b(throw|throws|try|catch|synchronized|assert|import"
            + "|package|protected|volatile|native|transient|Integer|Long|System|Object|Thread"
            + "|Random|hashCode|toString|record\\s+\\w+\\s*\\()\\b|->|::|@|\\bswitch\\s*\\(.*->";

    private static void face() {
        Set<String> methods = new TreeSet<>();
        Set<String> constants = new TreeSet<>();
        for (Method m : ViewedNames.class.getDeclaredMethods()) {
            if (!Modifier.isPrivate(m.getModifiers()) && !m.isSynthetic()) {
                methods.add(m.getName() + " " + m.getParameterCount());
                Due.holds(m + " is public and not static",
                        (m.getModifiers() & ~Modifier.FINAL) == Modifier.PUBLIC);
                Due.holds(m + " is of ints", m.getReturnType() == int.class
                        && Arrays.stream(m.getParameterTypes()).allMatch(t -> t == int.class));
            }
        }
        for (Field f : ViewedNames.class.getDeclaredFields()) {
            if (!Modifier.isPrivate(f.getModifiers())) {
                constants.add(f.getName() + " " + constant(f));
            }
        }
        Due.holds("methods: " + methods, methods.equals(new TreeSet<>(Arrays.asList(FACE))));
        Due.holds("constants: " + constants,
                constants.equals(new TreeSet<>(Arrays.asList(CONSTANTS))));
        Due.is("modifiers", ViewedNames.class.getModifiers(), Modifier.PUBLIC | Modifier.FINAL);
        Due.is("public constructors", ViewedNames.class.getConstructors().length, 1);
        Due.is("constructors", ViewedNames.class.getDeclaredConstructors().length, 1);
    }

    private static Object constant(Field field) {
        try {
            return field.get(null);
        } catch (IllegalAccessException e) {
            return e;
        }
    }

    private static void classesInside() {
        Set<String> open = new TreeSet<>();
        for (String method : FACE) {
            open.add(method.substring(0, method.indexOf(' ')));
        }
        Class<?>[] inside = ViewedNames.class.getDeclaredClasses();
        Due.holds("at most twelve classes", inside.length < 12);
        for (Class<?> c : inside) {
            Due.holds(c + " is static", Modifier.isStatic(c.getModifiers()));
            Due.holds(c + " is not public", !Modifier.isPublic(c.getModifiers()));
            int fields = 0;
            for (Field f : c.getDeclaredFields()) {
                boolean isStatic = Modifier.isStatic(f.getModifiers());
                fields += isStatic ? 0 : 1;
                Due.holds(f + " is final", !isStatic || Modifier.isFinal(f.getModifiers()));
            }
            Due.holds(c + " has few fields", fields <= 20);
            for (Method m : c.getDeclaredMethods()) {
                Due.holds(m + " has no name of the face", !open.contains(m.getName()));
                Due.holds(m + " takes at most seven", m.getParameterCount() <= 7);
            }
        }
        for (Method m : ViewedNames.class.getDeclaredMethods()) {
            Due.holds(m + " has no name of the face",
                    !Modifier.isPrivate(m.getModifiers()) || !open.contains(m.getName()));
        }
    }

    private static void text() throws IOException {
        String source = Files.readString(SOURCE);
        Due.holds("plain characters",
                source.chars().allMatch(c -> c == '\n' || c >= 32 && c < 127));
        String code = source.replaceAll("(?s)/\\*.*?\\*/", "").replaceAll("//[^\n]*", "")
                .replaceAll("'(\\\\.|[^'])'", "' '");
        Due.holds("no text constants are needed", code.indexOf('"') < 0);
        Matcher forbidden = Pattern.compile(FORBIDDEN).matcher(code);
        while (forbidden.find()) {
            Due.holds("forbidden: " + forbidden.group(), false);
        }
        int start = 0;
        String[] lines = source.split("\n");
        for (int i = 0; i < lines.length; i++) {
            if (lines[i].matches(" {4,8}[^ */}].*\\) \\{")) {
                start = i;
            }
            boolean isEnd = lines[i].matches(" {4,8}\\}") && lines[start].contains("(");
            Due.holds("short method up to line " + i, !isEnd || i - start < 60);
        }
    }

    /** Rule 12: what is kept stands in rows made with the object, so calls make nothing. */
    private static void roomIsMadeOnce() throws IOException {
        String source = Files.readString(SOURCE);
        for (String line : source.split("\n")) {
            boolean makes = line.matches(".*\\bnew\\b.*") && !line.trim().startsWith("*")
                    && !line.trim().startsWith("/");
            Due.holds("made outside a constructor: " + line.trim(), !makes
                    || line.matches(" +final .* = new .*") || line.matches(" {8,12}\\w+ = new .*"));
        }
    }

    /** Rule 8 and rule 11: no recursion, and calls go at most eight deep. */
    private static void callsAreNotDeep() throws IOException {
        Map<String, Set<String>> calls = new TreeMap<>();
        String heading = " {4,8}(?!return|else)[\\w\\[\\] ]*\\b(\\w+)\\(.*\\{";
        Pattern call = Pattern.compile("\\b(\\w+)\\(");
        String method = "";
        for (String line : Files.readAllLines(SOURCE)) {
            if (line.matches(heading)) {
                method = line.replaceAll(heading, "$1");
                calls.putIfAbsent(method, new TreeSet<>());
                continue;
            }
            Matcher called = call.matcher(line.replaceAll("^ *(/?\\*|//).*", ""));
            while (!method.isEmpty() && called.find()) {
                calls.get(method).add(called.group(1));
            }
        }
        for (String face : FACE) {
            String name = face.substring(0, face.indexOf(' '));
            Due.holds(name + " is found in the source", calls.containsKey(name));
            Due.holds(name + " goes too deep", depth(calls, name, 0) <= 8);
        }
        Due.holds("the deepest way is seen", depth(calls, "ask", 0) >= 7);
    }

    /** Methods of one name count as one, so this is rather too much than too little. */
    private static int depth(Map<String, Set<String>> calls, String method, int above) {
        int deepest = 0;
        // Recursion would have no end here; far more than eight is told as too deep as well.
        if (above > 20 || !calls.containsKey(method)) {
            return 0;
        }
        for (String called : calls.get(method)) {
            deepest = Math.max(deepest, depth(calls, called, above + 1));
        }
        return deepest + 1;
    }

    public static void main(String[] args) throws IOException {
        face();
        classesInside();
        text();
        roomIsMadeOnce();
        callsAreNotDeep();
        Due.end();
    }
}

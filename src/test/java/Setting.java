import java.lang.reflect.InvocationTargetException;
import java.lang.reflect.Method;
import java.util.ArrayList;
import java.util.List;

/** What the tests share: errors, names written with their labels, calls written as words. */
abstract class Setting {
    static final int INVALID = -1;
    static final int NOT_POSSIBLE = -2;
    static final int LIMIT = -3;
    static final int NOT_FOUND = -4;
    static final int NO_ZONE = -11;
    static final int NO_NAME = -12;
    static final int NO_DATA = -13;
    static final int TOO_LONG = -14;

    /** The number of a name that is written with its labels. */
    static int n(String labels) {
        int number = 0;
        for (int i = labels.length() - 1; i >= 0; i--) {
            number = number * 5 + labels.charAt(i) - '0';
        }
        return number;
    }

    /** All names, written with their labels, in the order of their numbers. */
    static List<String> allNames() {
        List<String> names = new ArrayList<>();
        for (int third = 0; third <= 4; third++) {
            for (int second = 0; second <= 4; second++) {
                for (int first = 1; first <= 4; first++) {
                    if (third == 0 && second == 0) {
                        names.add("" + first);
                    } else if (third == 0) {
                        names.add("" + first + second);
                    } else if (second != 0) {
                        names.add("" + first + second + third);
                    }
                }
            }
        }
        return names;
    }

    /** The names that are no patterns, so that zones can have them. */
    static List<String> allApexes() {
        List<String> apexes = allNames();
        apexes.removeIf(name -> name.endsWith("4"));
        return apexes;
    }

    /** The labels of a number; null if it is no name. */
    static String labels(int number) {
        for (String name : allNames()) {
            if (n(name) == number) {
                return name;
            }
        }
        return null;
    }

    static void write(ViewedNames x, String text) {
        x.clearText();
        for (int i = 0; i < text.length(); i++) {
            Due.is("type in " + text, x.type(text.charAt(i)), i + 1);
        }
    }

    static void passTo(ViewedNames x, int tick) {
        int now = x.time();
        while (now >= 0 && now < tick) {
            int ticks = Math.min(1000, tick - now);
            int then = x.pass(ticks);
            Due.is("pass " + ticks, then, now + ticks);
            now = then > now ? then : tick;
        }
    }

    static int call(ViewedNames x, String method, int... values) {
        Object[] arguments = new Object[values.length];
        for (int i = 0; i < values.length; i++) {
            arguments[i] = values[i];
        }
        try {
            return (Integer) find(method).invoke(x, arguments);
        } catch (IllegalAccessException | InvocationTargetException e) {
            throw new IllegalStateException(method + " threw", e);
        }
    }

    private static Method find(String name) {
        for (Method method : ViewedNames.class.getMethods()) {
            if (method.getName().equals(name)) {
                return method;
            }
        }
        throw new IllegalStateException(name);
    }

    /** The numbers of words: ".12" is the name 12, all others are numbers themselves. */
    static int[] numbers(String[] words, int from) {
        int[] numbers = new int[words.length - from];
        for (int i = from; i < words.length; i++) {
            boolean isName = words[i].startsWith(".");
            numbers[i - from] = isName ? n(words[i].substring(1)) : Integer.parseInt(words[i]);
        }
        return numbers;
    }

    /** A call like "set 0 .12 0 255". */
    static int call(ViewedNames x, String words) {
        String[] parts = words.split(" ");
        return call(x, parts[0], numbers(parts, 1));
    }

    /** Calls like "addZone 0 .1 = 0", each with the answer that is due. */
    static void run(ViewedNames x, String... calls) {
        for (String line : calls) {
            String[] sides = line.split(" = ");
            Due.is(line, call(x, sides[0]), numbers(sides, 1)[0]);
        }
    }

    /** Like run, on a new object. */
    static ViewedNames fresh(String... calls) {
        ViewedNames x = new ViewedNames();
        run(x, calls);
        return x;
    }

    /** A service whose only zone, 1 in view 0, has had all 70 changes. */
    static ViewedNames fullOfChanges() {
        ViewedNames x = new ViewedNames();
        x.addZone(0, n("1"));
        for (int i = 0; i < 70; i++) {
            Due.is("set " + i, x.set(0, n("1"), 2, i), 1);
        }
        return x;
    }
}

import java.util.ArrayList;
import java.util.Arrays;
import java.util.List;
import java.util.Map;
import java.util.TreeMap;
import java.util.TreeSet;

/**
 * Which arguments a method takes. A call has to answer INVALID_ARGUMENT just
 * when one of its arguments is out of its range, in whatever state.
 */
final class Ranges extends Setting {
    /** A method, the kinds of its arguments, and rows of arguments that are right. */
    private static final String[] METHODS = {
        "pass ticks | 1", "addNet netView address length | 1 0 1", "removeNet net | 0",
        "viewOf address tick | 0 0", "addZone view apex | 3 .3", "removeZone zone | 0",
        "zoneInfo zone what3 | 0 0", "count what5 | 0",
        "set zone nameAt type value | 0 .111 0 1 | 0 .111 1 1 | 0 .111 2 1",
        "clear zone name type | 0 .111 0", "record zone name type tick | 0 .111 0 0",
        "serial zone tick | 0 0", "change zone index what3 | 0 0 0", "lay zone | 0",
        "answer address name type tick | 0 .111 0 0", "viewAnswer view name type tick | 0 .111 0 0",
        "zoneFor view name tick | 0 .111 0", "source view name type tick | 0 .111 0 0",
        "differences view type tick tick | 0 0 0 0",
        "difference view type tick tick index | 0 0 0 0 0",
        "split view view type tick | 0 0 0 0", "since view name type | 0 .111 0",
        "seenBy name type any tick | .111 0 0 0", "setKeeping keeping | 0",
        "ask address name type | 0 .111 0", "type character | 49"};
    private static final int CALLS_OF_ONE_OBJECT = 300;

    private static final Map<Integer, String> NAMES = new TreeMap<>();
    private static final List<Integer> TRIED = new ArrayList<>();

    static {
        for (String name : allNames()) {
            NAMES.put(n(name), name);
        }
        TreeSet<Integer> tried = new TreeSet<>();
        add(tried, -140, 300);
        add(tried, 990, 1010);
        add(tried, 9990, 10010);
        // Right values that come back when a number is cut to fewer bits.
        for (int bit = 8; bit <= 31; bit++) {
            for (int right : new int[] {-2, -1, 0, 1, 2, 3, 8, 9, 31, 49, 124, 255}) {
                tried.add((1 << bit) + right);
                tried.add(right - (1 << bit));
            }
        }
        TRIED.addAll(tried);
    }

    private Ranges() {
    }

    private static void add(TreeSet<Integer> numbers, int low, int high) {
        for (int i = low; i <= high; i++) {
            numbers.add(i);
        }
    }

    private static boolean in(int value, int low, int high) {
        return value >= low && value <= high;
    }

    private static boolean isRight(State state, String kind, int value, int[] all) {
        switch (kind) {
            case "ticks": return in(value, 1, 1000);
            case "netView": return in(value, 1, 3);
            case "view": return in(value, 0, 3);
            case "address": return in(value, 0, 255);
            case "length": return in(value, 1, 8);
            case "net": return in(value, 0, state.nets - 1);
            case "zone": return in(value, 0, state.zones - 1);
            case "tick": return in(value, 0, state.time());
            case "name": return NAMES.containsKey(value);
            case "apex": return NAMES.containsKey(value) && !NAMES.get(value).endsWith("4");
            case "nameAt": return NAMES.containsKey(value) && in(all[0], 0, state.zones - 1)
                    && NAMES.get(value).startsWith(state.apex(all[0]));
            case "type": return in(value, 0, 2);
            case "value": return all[2] == 0 && in(value, 0, 255)
                    || all[2] == 1 && NAMES.containsKey(value) || all[2] == 2 && in(value, 0, 999);
            case "index": return value >= 0;
            case "what3": return in(value, 0, 3);
            case "what5": return in(value, 0, 5);
            case "keeping": return in(value, 0, 100);
            case "character": return in(value, 32, 126);
            case "any": return true;
            default: throw new IllegalStateException(kind);
        }
    }

    private static boolean isRight(State state, String[] kinds, int[] all) {
        boolean right = true;
        for (int i = 0; i < all.length; i++) {
            right = right && isRight(state, kinds[i + 1], all[i], all);
        }
        return right;
    }

    private static String[] partsOf(String method) {
        for (String row : METHODS) {
            if (row.startsWith(method + " ")) {
                return row.split(" \\| ");
            }
        }
        throw new IllegalStateException(method);
    }

    /** Makes the calls of one method, in a state that is built again after each one that is right. */
    private static final class Caller {
        final State state;
        final String[] kinds;
        ViewedNames x = null;
        int calls = 0;

        Caller(State state, String[] kinds) {
            this.state = state;
            this.kinds = kinds;
        }

        void check(int[] values) {
            if (x == null || calls >= CALLS_OF_ONE_OBJECT) {
                x = state.build();
                calls = 0;
            }
            calls++;
            int got = call(x, kinds[0], values);
            boolean right = isRight(state, kinds, values);
            Due.holds(state + ": " + kinds[0] + Arrays.toString(values) + " answered " + got,
                    right == (got != INVALID));
            if (right) {
                x = null;
            }
        }
    }

    /** One argument from far too small to far too large, with others that are right. */
    static void argument(String method, int place) {
        String[] parts = partsOf(method);
        for (State state : State.values()) {
            Caller caller = new Caller(state, parts[0].split(" "));
            for (int row = 1; row < parts.length; row++) {
                int[] values = numbers(parts[row].split(" "), 0);
                for (int tried : TRIED) {
                    values[place] = tried;
                    caller.check(values);
                }
            }
        }
    }

    /** Every choice of arguments that are wrong at once, by too little or by too much. */
    static void together(String method) {
        String[] parts = partsOf(method);
        for (State state : State.values()) {
            Caller caller = new Caller(state, parts[0].split(" "));
            for (int row = 1; row < parts.length; row++) {
                int[] right = numbers(parts[row].split(" "), 0);
                int choices = 1 << 2 * right.length;
                for (int choice = 0; choice < choices; choice++) {
                    caller.check(choose(right, choice));
                }
            }
        }
    }

    /** Two bits of the choice for each argument. */
    private static int[] choose(int[] right, int choice) {
        int[] values = right.clone();
        for (int i = 0; i < values.length; i++) {
            int how = choice >> 2 * i & 3;
            if (how != 0) {
                values[i] = how == 1 ? -1 : how == 2 ? Integer.MIN_VALUE : 10000;
            }
        }
        return values;
    }
}

import java.lang.reflect.Method;
import java.util.ArrayDeque;
import java.util.ArrayList;
import java.util.Deque;
import java.util.List;
import java.util.Random;

/** Runs of random calls, each made on a ViewedNames and on a Model. */
public final class ModelTest {
    private static final int RUNS = 2000;
    /** What an object answers after these is free. */
    private static final int CALLS = 512;

    /** A weight, the method and the kinds of its arguments. */
    private static final String[] CALL_KINDS = {
        "6 pass ticks", "1 time", "3 addNet view address length", "1 removeNet net",
        "3 viewOf address tick", "4 addZone view apex", "1 removeZone zone",
        "2 zoneInfo zone what", "4 count what", "22 set zone nameIn type value",
        "5 clear zone nameIn type", "5 record zone nameIn type tick", "3 serial zone tick",
        "4 change zone index what", "5 lay zone", "6 answer address name type tick",
        "8 viewAnswer view name type tick", "4 zoneFor view name tick",
        "6 source view name type tick", "3 differences view type tick tick",
        "3 difference view type tick tick index", "3 split view view type tick",
        "4 since view name type", "3 seenBy name type answer tick", "2 setKeeping keeping",
        "14 ask address name type", "5 stale", "2 type character", "2 clearText", "3 fault"};

    private final Random random;
    private final ViewedNames subject = new ViewedNames();
    private final Model model = new Model();
    private final Deque<Integer> characters = new ArrayDeque<>();
    private final List<String> done = new ArrayList<>();
    private final int[] names;
    private final int apex;
    private final int longPass;
    private final boolean isSteady;

    private ModelTest(int seed) {
        random = new Random(seed);
        // Few names at a time, so that records, aliases and zones meet.
        names = new int[4 + random.nextInt(12)];
        String start = "" + (1 + random.nextInt(4));
        for (int i = 0; i < names.length; i++) {
            String first = random.nextInt(5) == 0 ? "" + (1 + random.nextInt(4)) : start;
            names[i] = Model.number(longer(first, random.nextInt(3)));
        }
        apex = Integer.parseInt(start);
        longPass = random.nextInt(20) == 0 ? 1000 : 4;
        isSteady = random.nextInt(4) != 0;
    }

    private String longer(String labels, int more) {
        StringBuilder all = new StringBuilder(labels);
        for (int i = 0; i < more && all.length() < 3; i++) {
            all.append(1 + random.nextInt(4));
        }
        return all.toString();
    }

    private int pick(int... choices) {
        return choices[random.nextInt(choices.length)];
    }

    private int argument(String kind, int[] before) {
        if (random.nextInt(60) == 0) {
            return pick(-1, -2, 3, 4, 5, 10, 25, 60, 101, 125, 256, 1000, 1001, 10000,
                    Integer.MIN_VALUE, Integer.MAX_VALUE);
        }
        switch (kind) {
            case "ticks": return 1 + random.nextInt(longPass);
            case "view": return random.nextInt(4);
            case "address": return pick(0, 1, 63, 64, 127, 128, 200, 255, random.nextInt(256));
            case "length": return 1 + random.nextInt(8);
            case "zone": return random.nextInt(Math.max(1, model.zonesMade()));
            case "net": return random.nextInt(Math.max(1, model.netsMade()));
            case "apex": return random.nextBoolean() ? apex : anyName();
            case "nameIn": return nameIn(before[0]);
            case "tick": return random.nextInt(3) == 0 ? model.time()
                    : random.nextInt(model.time() + 1);
            case "name": return random.nextInt(12) == 0 ? random.nextInt(126) : anyName();
            case "type": return pick(0, 1, 1, 2);
            case "value": return before[2] == 1 ? anyName()
                    : pick(0, 7, 8, 8, 255, 256, 999, random.nextInt(1001));
            case "answer": return pick(-11, -12, -13, -14, 7, 8, 0, names[0], 255);
            case "what": return random.nextInt(6);
            case "index": return random.nextInt(6);
            case "keeping": return random.nextInt(8);
            default: return nextCharacter();
        }
    }

    private int anyName() {
        return names[random.nextInt(names.length)];
    }

    /** Mostly a name at the apex of a zone. */
    private int nameIn(int zone) {
        String labels = Model.labels(model.zoneInfo(zone, 1));
        return labels == null || random.nextInt(5) == 0 ? anyName()
                : Model.number(longer(labels, random.nextInt(3)));
    }

    /** Mostly the next character of a right change, else any. */
    private int nextCharacter() {
        if (characters.isEmpty()) {
            int type = random.nextInt(3);
            String value = type == 1 ? labels() : "" + random.nextInt(type == 0 ? 270 : 1010);
            value = random.nextInt(12) == 0 ? "0" + value : value;
            String change = labels() + ":" + type
                    + (random.nextInt(4) == 0 ? "-" : "=" + value) + ";";
            change.chars().forEach(characters::add);
        }
        int next = characters.poll();
        return random.nextInt(150) == 0 ? pick(' ', '~', '1', '0', ';', ':', '=', '-', 'x') : next;
    }

    private String labels() {
        return Model.labels(random.nextInt(8) == 0 ? anyName() : nameIn(0));
    }

    private static Method method(Class<?> owner, String name) {
        for (Method method : owner.getDeclaredMethods()) {
            if (method.getName().equals(name) && method.getReturnType() == int.class
                    && !method.isSynthetic()) {
                return method;
            }
        }
        throw new IllegalStateException(name);
    }

    /** Makes one call on both; false if the answers are different. */
    private boolean call(String[] kinds) throws ReflectiveOperationException {
        int[] values = new int[kinds.length - 2];
        Object[] arguments = new Object[values.length];
        StringBuilder told = new StringBuilder(kinds[1]);
        for (int i = 0; i < values.length; i++) {
            values[i] = argument(kinds[i + 2], values);
            arguments[i] = values[i];
            told.append(i == 0 ? "(" : ", ").append(values[i]);
        }
        int want = (Integer) method(Model.class, kinds[1]).invoke(model, arguments);
        int got = (Integer) method(ViewedNames.class, kinds[1]).invoke(subject, arguments);
        done.add(told + " = " + got);
        Due.is(told.toString(), got, want);
        return got == want;
    }

    private boolean run(List<String[]> lots) throws ReflectiveOperationException {
        boolean right = true;
        while (right && done.size() < CALLS) {
            String[] kinds = lots.get(random.nextInt(lots.size()));
            if (isSteady && kinds[1].startsWith("remove") && random.nextInt(8) != 0) {
                continue;
            }
            int times = kinds[1].equals("type") ? 1 + random.nextInt(40) : 1;
            for (int k = 0; right && k < times && done.size() < CALLS; k++) {
                right = call(kinds);
            }
        }
        return right;
    }

    public static void main(String[] args) throws ReflectiveOperationException {
        List<String[]> lots = new ArrayList<>();
        for (String kinds : CALL_KINDS) {
            String[] words = kinds.split(" ");
            for (int i = 0; i < Integer.parseInt(words[0]); i++) {
                lots.add(words);
            }
        }
        for (int seed = 0; seed < RUNS && Due.wrong() == 0; seed++) {
            ModelTest test = new ModelTest(seed);
            if (!test.run(lots)) {
                System.out.println("seed " + seed + ":");
                test.done.forEach(System.out::println);
            }
        }
        Due.end();
    }
}

import java.util.ArrayList;
import java.util.List;
import java.util.Map;
import java.util.TreeMap;
import java.util.regex.Matcher;
import java.util.regex.Pattern;

/**
 * The document built a second time, in another way: names are texts of
 * labels, and everything that is there is copied whenever ticks pass.
 */
final class Model {
    private static final Pattern CHANGE = Pattern.compile(
            "([1-4]{1,3}):(?:0=([01]?[0-9]{1,2}|2[0-4][0-9]|25[0-5])|1=([1-4]{1,3})"
            + "|2=([0-9]{1,3})|([012])-);");

    private record Net(int view, String bits) {
    }

    private record Zone(int view, String apex, int made) {
    }

    private record Change(int tick, String name, int type, int value) {
    }

    private record Kept(String question, int address, String name, int type, int answer,
            int tick) {
    }

    /** What is there at a tick. */
    private static final class State {
        final Map<Integer, Net> nets = new TreeMap<>();
        final Map<Integer, Map<String, Integer>> zones = new TreeMap<>();

        State copy() {
            State copy = new State();
            copy.nets.putAll(nets);
            zones.forEach((zone, records) -> copy.zones.put(zone, new TreeMap<>(records)));
            return copy;
        }
    }

    private final TreeMap<Integer, State> past = new TreeMap<>();
    private final State present = new State();
    private final List<Net> nets = new ArrayList<>();
    private final List<Zone> zones = new ArrayList<>();
    private final Map<Integer, Integer> removed = new TreeMap<>();
    private final List<List<Change>> changes = new ArrayList<>();
    private final List<Kept> kept = new ArrayList<>();
    private String text = "";
    private int now = 0;
    private int hits = 0;
    private int keeping = 3;

    /** The labels of a name; null for a number that is no name. */
    static String labels(int number) {
        if (number < 1 || number > 124) {
            return null;
        }
        String all = "" + number % 5 + number / 5 % 5 + number / 25;
        String labels = all.replaceAll("0+$", "");
        return labels.isEmpty() || labels.contains("0") ? null : labels;
    }

    static int number(String labels) {
        int[] weights = {1, 5, 25};
        int number = 0;
        for (int i = 0; i < labels.length(); i++) {
            number += weights[i] * (labels.charAt(i) - '0');
        }
        return number;
    }

    private static boolean in(int value, int low, int high) {
        return low <= value && value <= high;
    }

    private static String bits(int address) {
        return Integer.toBinaryString(256 + address).substring(1);
    }

    private State at(int tick) {
        return tick == now ? present : past.floorEntry(tick).getValue();
    }

    int pass(int ticks) {
        if (!in(ticks, 1, 1000)) {
            return -1;
        }
        if (now + ticks > 9999) {
            return -3;
        }
        past.put(now, present.copy());
        now += ticks;
        return now;
    }

    int time() {
        return now;
    }

    int addNet(int view, int base, int length) {
        if (!in(view, 1, 3) || !in(base, 0, 255) || !in(length, 1, 8)) {
            return -1;
        }
        if (nets.size() == 10) {
            return -3;
        }
        Net net = new Net(view, bits(base).substring(0, length));
        present.nets.put(nets.size(), net);
        nets.add(net);
        return nets.size() - 1;
    }

    int removeNet(int net) {
        if (!in(net, 0, nets.size() - 1)) {
            return -1;
        }
        return present.nets.remove(net) == null ? -2 : nets.get(net).view;
    }

    int viewOf(int address, int tick) {
        if (!in(address, 0, 255) || !in(tick, 0, now)) {
            return -1;
        }
        Net best = null;
        for (Net net : at(tick).nets.values()) {
            boolean contains = bits(address).startsWith(net.bits);
            if (contains && (best == null || net.bits.length() > best.bits.length())) {
                best = net;
            }
        }
        return best == null ? 0 : best.view;
    }

    int addZone(int view, int apex) {
        String labels = labels(apex);
        if (!in(view, 0, 3) || labels == null || labels.endsWith("4")) {
            return -1;
        }
        for (int zone : present.zones.keySet()) {
            if (zones.get(zone).view == view && zones.get(zone).apex.equals(labels)) {
                return -2;
            }
        }
        if (zones.size() == 10) {
            return -3;
        }
        present.zones.put(zones.size(), new TreeMap<>());
        zones.add(new Zone(view, labels, now));
        changes.add(new ArrayList<>());
        return zones.size() - 1;
    }

    int removeZone(int zone) {
        if (!isZone(zone)) {
            return -1;
        }
        Map<String, Integer> records = present.zones.remove(zone);
        if (records == null) {
            return -2;
        }
        removed.put(zone, now);
        return records.size();
    }

    int zonesMade() {
        return zones.size();
    }

    int netsMade() {
        return nets.size();
    }

    private boolean isZone(int zone) {
        return in(zone, 0, zones.size() - 1);
    }

    int zoneInfo(int zone, int what) {
        if (!isZone(zone) || !in(what, 0, 3)) {
            return -1;
        }
        Zone z = zones.get(zone);
        int[] infos = {z.view, number(z.apex), z.made, removed.getOrDefault(zone, -4)};
        return infos[what];
    }

    int count(int what) {
        if (!in(what, 0, 5)) {
            return -1;
        }
        int records = present.zones.values().stream().mapToInt(Map::size).sum();
        int[] counts = {present.nets.size(), present.zones.size(), records, changeCount(),
            kept.size(), hits};
        return counts[what];
    }

    private int changeCount() {
        return changes.stream().mapToInt(List::size).sum();
    }

    int set(int zone, int name, int type, int value) {
        String labels = labels(name);
        if (!isZone(zone) || labels == null || !labels.startsWith(zones.get(zone).apex)) {
            return -1;
        }
        boolean isValue = type == 0 && in(value, 0, 255) || type == 1 && labels(value) != null
                || type == 2 && in(value, 0, 999);
        if (!isValue) {
            return -1;
        }
        if (!present.zones.containsKey(zone)) {
            return -2;
        }
        if (changeCount() == 70) {
            return -3;
        }
        make(zone, labels, type, value);
        return present.zones.get(zone).size();
    }

    private void make(int zone, String name, int type, int value) {
        Map<String, Integer> records = present.zones.get(zone);
        if (value < 0 && !records.containsKey(name + ":" + type)) {
            return;
        }
        if (value < 0) {
            records.remove(name + ":" + type);
        } else {
            records.put(name + ":" + type, value);
        }
        changes.get(zone).add(new Change(now, name, type, value));
    }

    int clear(int zone, int name, int type) {
        if (!isZone(zone) || labels(name) == null || !in(type, 0, 2)) {
            return -1;
        }
        if (!present.zones.containsKey(zone)) {
            return -2;
        }
        if (changeCount() == 70) {
            return -3;
        }
        Integer value = present.zones.get(zone).get(labels(name) + ":" + type);
        make(zone, labels(name), type, -1);
        return value == null ? -4 : value;
    }

    int record(int zone, int name, int type, int tick) {
        if (!isZone(zone) || labels(name) == null || !in(type, 0, 2) || !in(tick, 0, now)) {
            return -1;
        }
        Map<String, Integer> records = at(tick).zones.get(zone);
        return records == null ? -2 : records.getOrDefault(labels(name) + ":" + type, -4);
    }

    int serial(int zone, int tick) {
        if (!isZone(zone) || !in(tick, 0, now)) {
            return -1;
        }
        return (int) changes.get(zone).stream().filter(c -> c.tick <= tick).count();
    }

    int change(int zone, int index, int what) {
        if (!isZone(zone) || index < 0 || !in(what, 0, 3)) {
            return -1;
        }
        if (index >= changes.get(zone).size()) {
            return -4;
        }
        Change change = changes.get(zone).get(index);
        int[] parts = {change.tick, number(change.name), change.type, change.value};
        return parts[what];
    }

    int lay(int zone) {
        if (!isZone(zone)) {
            return -1;
        }
        if (!present.zones.containsKey(zone) || fault() != -4) {
            return -2;
        }
        List<Change> laid = new ArrayList<>();
        for (Matcher m = CHANGE.matcher(text); m.find();) {
            int type = m.group(2) != null ? 0 : m.group(3) != null ? 1 : m.group(4) != null ? 2
                    : Integer.parseInt(m.group(5));
            int value = m.group(5) != null ? -1 : type == 1 ? number(m.group(3))
                    : Integer.parseInt(m.group(type == 0 ? 2 : 4));
            if (!m.group(1).startsWith(zones.get(zone).apex)) {
                return -2;
            }
            laid.add(new Change(now, m.group(1), type, value));
        }
        if (changeCount() + laid.size() > 70) {
            return -3;
        }
        laid.forEach(c -> make(zone, c.name, c.type, c.value));
        return present.zones.get(zone).size();
    }

    private int responsible(int view, String name, int tick) {
        for (int length = name.length(); length >= 1; length--) {
            for (int wanted : new int[] {view, 0}) {
                for (int zone : at(tick).zones.keySet()) {
                    Zone z = zones.get(zone);
                    if (z.view == wanted && z.apex.equals(name.substring(0, length))) {
                        return zone;
                    }
                }
            }
        }
        return -1;
    }

    private static boolean exists(Map<String, Integer> records, String name) {
        return records.keySet().stream().anyMatch(key -> key.startsWith(name));
    }

    /** The answer, and the number of the name whose record gives it. */
    private int[] resolve(int view, String name, int type, int tick, int aliases) {
        int zone = responsible(view, name, tick);
        if (zone < 0) {
            return new int[] {-11, -4};
        }
        Map<String, Integer> records = at(tick).zones.get(zone);
        String found = name;
        if (!exists(records, name)) {
            found = name.substring(0, name.length() - 1) + "4";
            boolean isBelow = found.length() > zones.get(zone).apex.length();
            if (name.endsWith("4") || !isBelow || !exists(records, found)) {
                return new int[] {-12, -4};
            }
        }
        if (records.containsKey(found + ":" + type)) {
            return new int[] {records.get(found + ":" + type), number(found)};
        }
        if (!records.containsKey(found + ":1")) {
            return new int[] {-13, -4};
        }
        if (aliases == 4) {
            return new int[] {-14, -4};
        }
        return resolve(view, labels(records.get(found + ":1")), type, tick, aliases + 1);
    }

    private int value(int view, int name, int type, int tick) {
        return resolve(view, labels(name), type, tick, 0)[0];
    }

    private boolean isWrong(int view, int name, int type, int tick) {
        return !in(view, 0, 3) || labels(name) == null || !in(type, 0, 2) || !in(tick, 0, now);
    }

    int answer(int address, int name, int type, int tick) {
        if (!in(address, 0, 255) || isWrong(0, name, type, tick)) {
            return -1;
        }
        return value(viewOf(address, tick), name, type, tick);
    }

    int viewAnswer(int view, int name, int type, int tick) {
        return isWrong(view, name, type, tick) ? -1 : value(view, name, type, tick);
    }

    int zoneFor(int view, int name, int tick) {
        if (isWrong(view, name, 0, tick)) {
            return -1;
        }
        int zone = responsible(view, labels(name), tick);
        return zone < 0 ? -4 : zone;
    }

    int source(int view, int name, int type, int tick) {
        if (isWrong(view, name, type, tick)) {
            return -1;
        }
        return resolve(view, labels(name), type, tick, 0)[1];
    }

    private List<Integer> differing(int view, int tick, int otherView, int otherTick, int type) {
        List<Integer> names = new ArrayList<>();
        for (int name = 0; name < 200; name++) {
            if (labels(name) != null
                    && value(view, name, type, tick) != value(otherView, name, type, otherTick)) {
                names.add(name);
            }
        }
        return names;
    }

    int differences(int view, int type, int one, int other) {
        if (isWrong(view, 1, type, one) || isWrong(view, 1, type, other)) {
            return -1;
        }
        return differing(view, one, view, other, type).size();
    }

    int difference(int view, int type, int one, int other, int index) {
        if (isWrong(view, 1, type, one) || isWrong(view, 1, type, other) || index < 0) {
            return -1;
        }
        List<Integer> names = differing(view, one, view, other, type);
        return index < names.size() ? names.get(index) : -4;
    }

    int split(int view, int other, int type, int tick) {
        if (isWrong(view, 1, type, tick) || isWrong(other, 1, type, tick)) {
            return -1;
        }
        return differing(view, tick, other, tick, type).size();
    }

    int since(int view, int name, int type) {
        if (isWrong(view, name, type, 0)) {
            return -1;
        }
        int latest = value(view, name, type, now);
        int tick = now;
        while (tick > 0 && value(view, name, type, tick - 1) == latest) {
            tick--;
        }
        return tick;
    }

    int seenBy(int name, int type, int answer, int tick) {
        if (isWrong(0, name, type, tick)) {
            return -1;
        }
        int seeing = 0;
        for (int address = 0; address < 256; address++) {
            if (answer(address, name, type, tick) == answer) {
                seeing++;
            }
        }
        return seeing;
    }

    int setKeeping(int ticks) {
        if (!in(ticks, 0, 100)) {
            return -1;
        }
        int previous = keeping;
        keeping = ticks;
        return previous;
    }

    int ask(int address, int name, int type) {
        if (!in(address, 0, 255) || isWrong(0, name, type, 0)) {
            return -1;
        }
        String question = address + " " + name + " " + type;
        for (Kept k : kept) {
            if (k.question.equals(question) && now - k.tick <= keeping) {
                hits++;
                return k.answer;
            }
        }
        int found = answer(address, name, type, now);
        if (!kept.removeIf(k -> k.question.equals(question)) && kept.size() == 6) {
            int oldest = kept.stream().mapToInt(Kept::tick).min().getAsInt();
            kept.remove(kept.stream().filter(k -> k.tick == oldest).findFirst().get());
        }
        kept.add(new Kept(question, address, labels(name), type, found, now));
        return found;
    }

    int stale() {
        return (int) kept.stream().filter(k -> now - k.tick <= keeping
                && k.answer != answer(k.address, number(k.name), k.type, now)).count();
    }

    int type(int character) {
        if (!in(character, 32, 126)) {
            return -1;
        }
        if (text.length() == 60) {
            return -3;
        }
        text += (char) character;
        return text.length();
    }

    int clearText() {
        int length = text.length();
        text = "";
        return length;
    }

    int fault() {
        Matcher m = CHANGE.matcher(text);
        int start = 0;
        while (start < text.length()) {
            m.region(start, text.length());
            if (!m.lookingAt()) {
                return start;
            }
            start = m.end();
        }
        return -4;
    }
}

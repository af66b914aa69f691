/**
 * A name service with views. Nets decide which view an address has, zones of
 * a view hide those of the common view 0, and every question can be asked as
 * of the present tick or of any earlier one.
 */
public final class ViewedNames {
    public static final int INVALID_ARGUMENT = -1;
    public static final int NOT_POSSIBLE = -2;
    public static final int LIMIT_REACHED = -3;
    public static final int NOT_FOUND = -4;
    public static final int NO_ZONE = -11, NO_NAME = -12, NO_DATA = -13, TOO_LONG = -14;

    private static final int NONE = -1;
    private static final int LAST_TICK = 9999;
    private static final int MOST_TICKS_AT_ONCE = 1000;
    private static final int MOST_KEEPING = 100;
    private static final int COMMON_VIEW = 0;
    private static final int LAST_VIEW = 3;
    private static final int LAST_ADDRESS = 255;
    private static final int LAST_NUMBER = 999;
    private static final int ADDRESS_TYPE = 0;
    private static final int ALIAS_TYPE = 1;
    private static final int LAST_TYPE = 2;

    private final Nets nets;
    private final Catalog catalog;
    private final Zones zones;
    private final Records records;
    private final KeptAnswers kept;
    private final Text text;
    private int now;

    public ViewedNames() {
        nets = new Nets();
        catalog = new Catalog();
        zones = catalog.zones;
        records = catalog.records;
        kept = new KeptAnswers();
        text = new Text();
        now = 0;
    }

    // ---- time, nets and zones

    public int pass(int ticks) {
        if (ticks < 1 || ticks > MOST_TICKS_AT_ONCE) {
            return INVALID_ARGUMENT;
        }
        if (now + ticks > LAST_TICK) {
            return LIMIT_REACHED;
        }
        now += ticks;
        return now;
    }

    public int time() {
        return now;
    }

    public int addNet(int view, int base, int length) {
        if (!isView(view) || view == COMMON_VIEW || !isAddress(base) || !Nets.isLength(length)) {
            return INVALID_ARGUMENT;
        }
        if (nets.spans.isFull()) {
            return LIMIT_REACHED;
        }
        return nets.make(view, base, length, now);
    }

    public int removeNet(int net) {
        if (!nets.spans.isMade(net)) {
            return INVALID_ARGUMENT;
        }
        if (!nets.spans.isThere(net, now)) {
            return NOT_POSSIBLE;
        }
        nets.spans.end(net, now);
        return nets.view[net];
    }

    public int viewOf(int address, int tick) {
        if (!isAddress(address) || !isTick(tick)) {
            return INVALID_ARGUMENT;
        }
        return nets.viewAt(address, tick);
    }

    public int addZone(int view, int apex) {
        if (!isView(view) || !Names.isName(apex) || Names.isPattern(apex)) {
            return INVALID_ARGUMENT;
        }
        if (zones.find(view, apex, now) != NONE) {
            return NOT_POSSIBLE;
        }
        if (zones.spans.isFull()) {
            return LIMIT_REACHED;
        }
        return zones.make(view, apex, now);
    }

    public int removeZone(int zone) {
        if (!zones.spans.isMade(zone)) {
            return INVALID_ARGUMENT;
        }
        if (!zones.spans.isThere(zone, now)) {
            return NOT_POSSIBLE;
        }
        zones.spans.end(zone, now);
        return records.countIn(zone, now);
    }

    public int zoneInfo(int zone, int what) {
        if (!zones.spans.isMade(zone)) {
            return INVALID_ARGUMENT;
        }
        switch (what) {
            case 0:
                return zones.view[zone];
            case 1:
                return zones.apex[zone];
            case 2:
                return zones.spans.from[zone];
            case 3:
                return zones.spans.isThere(zone, now) ? NOT_FOUND : zones.spans.until[zone];
            default:
                return INVALID_ARGUMENT;
        }
    }

    public int count(int what) {
        switch (what) {
            case 0:
                return nets.spans.countThere(now);
            case 1:
                return zones.spans.countThere(now);
            case 2:
                return catalog.countRecords(now);
            case 3:
                return records.spans.made;
            case 4:
                return kept.size;
            case 5:
                return kept.hits;
            default:
                return INVALID_ARGUMENT;
        }
    }

    // ---- records

    public int set(int zone, int name, int type, int value) {
        if (!zones.spans.isMade(zone) || !Names.isName(name) || !isValue(type, value)
                || !Names.isAt(name, zones.apex[zone])) {
            return INVALID_ARGUMENT;
        }
        if (!zones.spans.isThere(zone, now)) {
            return NOT_POSSIBLE;
        }
        if (records.spans.isFull()) {
            return LIMIT_REACHED;
        }
        records.put(zone, name, type, value, now);
        return records.countIn(zone, now);
    }

    public int clear(int zone, int name, int type) {
        if (!zones.spans.isMade(zone) || !Names.isName(name) || !isType(type)) {
            return INVALID_ARGUMENT;
        }
        if (!zones.spans.isThere(zone, now)) {
            return NOT_POSSIBLE;
        }
        if (records.spans.isFull()) {
            return LIMIT_REACHED;
        }
        int record = records.find(zone, name, type, now);
        if (record == NONE) {
            return NOT_FOUND;
        }
        records.drop(record, now);
        return records.value[record];
    }

    public int record(int zone, int name, int type, int tick) {
        if (!zones.spans.isMade(zone) || !Names.isName(name) || !isType(type) || !isTick(tick)) {
            return INVALID_ARGUMENT;
        }
        if (!zones.spans.isThere(zone, tick)) {
            return NOT_POSSIBLE;
        }
        int record = records.find(zone, name, type, tick);
        return record == NONE ? NOT_FOUND : records.value[record];
    }

    public int serial(int zone, int tick) {
        if (!zones.spans.isMade(zone) || !isTick(tick)) {
            return INVALID_ARGUMENT;
        }
        return records.countChanges(zone, tick);
    }

    public int change(int zone, int index, int what) {
        if (!zones.spans.isMade(zone) || index < 0 || what < 0 || what > 3) {
            return INVALID_ARGUMENT;
        }
        int change = records.findChange(zone, index);
        if (change == NONE) {
            return NOT_FOUND;
        }
        switch (what) {
            case 0:
                return records.spans.from[change];
            case 1:
                return records.name[change];
            case 2:
                return records.type[change];
            default:
                return records.value[change];
        }
    }

    public int lay(int zone) {
        if (!zones.spans.isMade(zone)) {
            return INVALID_ARGUMENT;
        }
        if (!zones.spans.isThere(zone, now) || text.read() != NOT_FOUND
                || !text.isAllAt(zones.apex[zone])) {
            return NOT_POSSIBLE;
        }
        if (!records.spans.hasRoomFor(text.changes)) {
            return LIMIT_REACHED;
        }
        layChanges(zone);
        return records.countIn(zone, now);
    }

    private void layChanges(int zone) {
        for (int i = 0; i < text.changes; i++) {
            if (text.value[i] != Records.REMOVED) {
                records.put(zone, text.name[i], text.type[i], text.value[i], now);
                continue;
            }
            int record = records.find(zone, text.name[i], text.type[i], now);
            if (record != NONE) {
                records.drop(record, now);
            }
        }
    }

    // ---- questions

    public int answer(int address, int name, int type, int tick) {
        if (!isAddress(address) || !isQuestion(name, type) || !isTick(tick)) {
            return INVALID_ARGUMENT;
        }
        return answerFor(address, name, type, tick);
    }

    private int answerFor(int address, int name, int type, int tick) {
        return catalog.lookUp(nets.viewAt(address, tick), name, type, tick);
    }

    public int viewAnswer(int view, int name, int type, int tick) {
        if (!isView(view) || !isQuestion(name, type) || !isTick(tick)) {
            return INVALID_ARGUMENT;
        }
        return catalog.lookUp(view, name, type, tick);
    }

    public int zoneFor(int view, int name, int tick) {
        if (!isView(view) || !Names.isName(name) || !isTick(tick)) {
            return INVALID_ARGUMENT;
        }
        int zone = zones.responsible(view, name, tick);
        return zone == NONE ? NOT_FOUND : zone;
    }

    public int source(int view, int name, int type, int tick) {
        if (!isView(view) || !isQuestion(name, type) || !isTick(tick)) {
            return INVALID_ARGUMENT;
        }
        int record = catalog.recordBehind(view, name, type, tick);
        return record < 0 ? NOT_FOUND : records.name[record];
    }

    public int differences(int view, int type, int one, int other) {
        if (!isView(view) || !isType(type) || !isTick(one) || !isTick(other)) {
            return INVALID_ARGUMENT;
        }
        return countDiffering(view, one, view, other, type);
    }

    public int difference(int view, int type, int one, int other, int index) {
        if (!isView(view) || !isType(type) || !isTick(one) || !isTick(other) || index < 0) {
            return INVALID_ARGUMENT;
        }
        int before = 0;
        for (int name = Names.FIRST; name <= Names.LAST; name++) {
            if (Names.isName(name) && catalog.lookUp(view, name, type, one)
                    != catalog.lookUp(view, name, type, other)) {
                if (before == index) {
                    return name;
                }
                before++;
            }
        }
        return NOT_FOUND;
    }

    public int split(int view, int other, int type, int tick) {
        if (!isView(view) || !isView(other) || !isType(type) || !isTick(tick)) {
            return INVALID_ARGUMENT;
        }
        return countDiffering(view, tick, other, tick, type);
    }

    private int countDiffering(int view, int tick, int otherView, int otherTick, int type) {
        int differing = 0;
        for (int name = Names.FIRST; name <= Names.LAST; name++) {
            if (Names.isName(name) && catalog.lookUp(view, name, type, tick)
                    != catalog.lookUp(otherView, name, type, otherTick)) {
                differing++;
            }
        }
        return differing;
    }

    public int since(int view, int name, int type) {
        if (!isView(view) || !isQuestion(name, type)) {
            return INVALID_ARGUMENT;
        }
        int latest = catalog.lookUp(view, name, type, now);
        int start = catalog.lastEvent(now);
        // Between two events no answer can change, so only the tick before each one is asked.
        for (int round = 0; round < LAST_TICK && start > 0; round++) {
            if (catalog.lookUp(view, name, type, start - 1) != latest) {
                return start;
            }
            start = catalog.lastEvent(start - 1);
        }
        return start;
    }

    public int seenBy(int name, int type, int answer, int tick) {
        if (!isQuestion(name, type) || !isTick(tick)) {
            return INVALID_ARGUMENT;
        }
        int seeing = 0;
        for (int view = COMMON_VIEW; view <= LAST_VIEW; view++) {
            if (catalog.lookUp(view, name, type, tick) == answer) {
                seeing += nets.countAddresses(view, tick);
            }
        }
        return seeing;
    }

    // ---- kept answers

    public int setKeeping(int ticks) {
        if (ticks < 0 || ticks > MOST_KEEPING) {
            return INVALID_ARGUMENT;
        }
        int previous = kept.keeping;
        kept.keeping = ticks;
        return previous;
    }

    public int ask(int address, int name, int type) {
        if (!isAddress(address) || !isQuestion(name, type)) {
            return INVALID_ARGUMENT;
        }
        int place = kept.find(address, name, type);
        if (place != NONE && kept.isFresh(place, now)) {
            kept.hits++;
            return kept.answer[place];
        }
        int found = answerFor(address, name, type, now);
        kept.keep(address, name, type, found, now);
        return found;
    }

    public int stale() {
        int stale = 0;
        for (int i = 0; i < kept.size; i++) {
            if (kept.isFresh(i, now) && kept.answer[i]
                    != answerFor(kept.address[i], kept.name[i], kept.type[i], now)) {
                stale++;
            }
        }
        return stale;
    }

    // ---- texts

    public int type(int character) {
        if (character < ' ' || character > '~') {
            return INVALID_ARGUMENT;
        }
        if (text.length >= Text.LIMIT) {
            return LIMIT_REACHED;
        }
        text.append(character);
        return text.length;
    }

    public int clearText() {
        int previous = text.length;
        text.length = 0;
        return previous;
    }

    public int fault() {
        return text.read();
    }

    // ---- ranges of arguments

    private boolean isTick(int tick) {
        return tick >= 0 && tick <= now;
    }

    private static boolean isView(int view) {
        return view >= COMMON_VIEW && view <= LAST_VIEW;
    }

    private static boolean isAddress(int address) {
        return address >= 0 && address <= LAST_ADDRESS;
    }

    private static boolean isType(int type) {
        return type >= 0 && type <= LAST_TYPE;
    }

    private static boolean isQuestion(int name, int type) {
        return Names.isName(name) && isType(type);
    }

    private static boolean isValue(int type, int value) {
        if (!isType(type)) {
            return false;
        }
        if (type == ALIAS_TYPE) {
            return Names.isName(value);
        }
        return value >= 0 && value <= (type == ADDRESS_TYPE ? LAST_ADDRESS : LAST_NUMBER);
    }

    /** What can be said of names by their numbers alone. */
    private static final class Names {
        static final int FIRST = 1;
        static final int LAST = 124;
        static final int BASE = 5;
        static final int PATTERN_LABEL = 4;

        static boolean isName(int number) {
            if (number < FIRST || number > LAST || number % BASE == 0) {
                return false;
            }
            boolean hasSecond = number / BASE % BASE != 0;
            boolean hasThird = number / (BASE * BASE) != 0;
            return hasSecond || !hasThird;
        }

        /** What the last label of a name counts in its number. */
        static int lastWeight(int name) {
            if (name < BASE) {
                return 1;
            }
            return name < BASE * BASE ? BASE : BASE * BASE;
        }

        static boolean isPattern(int name) {
            return name >= PATTERN_LABEL * lastWeight(name);
        }

        static int patternFor(int name) {
            int weight = lastWeight(name);
            return name % weight + PATTERN_LABEL * weight;
        }

        static boolean isAt(int name, int other) {
            if (other < BASE) {
                return name % BASE == other;
            }
            return other < BASE * BASE ? name % (BASE * BASE) == other : name == other;
        }

        static boolean isBelow(int name, int other) {
            return name != other && isAt(name, other);
        }

        static boolean isLonger(int name, int other) {
            return lastWeight(name) > lastWeight(other);
        }
    }

    /**
     * When the things of a kind are there: each from the tick at which it is
     * made until the one at which it ends, which is not part of it.
     */
    private static final class Spans {
        private static final int NO_END = LAST_TICK + 1;

        final int[] from;
        final int[] until;
        final int limit;
        int made;

        Spans(int limit) {
            this.limit = Math.max(limit, 0);
            from = new int[this.limit];
            until = new int[this.limit];
            made = 0;
        }

        boolean isFull() {
            return made >= limit;
        }

        boolean hasRoomFor(int more) {
            return more <= limit - made;
        }

        boolean isMade(int number) {
            return number >= 0 && number < made;
        }

        boolean isThere(int number, int tick) {
            return number >= 0 && number < made && from[number] <= tick && tick < until[number];
        }

        int countThere(int tick) {
            int there = 0;
            for (int i = 0; i < made; i++) {
                if (isThere(i, tick)) {
                    there++;
                }
            }
            return there;
        }

        /** Answers the number of the new thing; NONE if there is no room for it. */
        int begin(int tick) {
            if (isFull()) {
                return NONE;
            }
            int number = made;
            from[number] = tick;
            until[number] = NO_END;
            made++;
            return number;
        }

        void end(int number, int tick) {
            if (isMade(number)) {
                until[number] = tick;
            }
        }
    }

    /** The nets, by which addresses get their views. */
    private static final class Nets {
        static final int LIMIT = 10;
        static final int ADDRESS_BITS = 8;

        final Spans spans = new Spans(LIMIT);
        final int[] view = new int[LIMIT];
        final int[] base = new int[LIMIT];
        final int[] length = new int[LIMIT];

        static boolean isLength(int length) {
            return length >= 1 && length <= ADDRESS_BITS;
        }

        int make(int view, int base, int length, int tick) {
            int net = spans.begin(tick);
            if (net != NONE) {
                this.view[net] = view;
                this.base[net] = base;
                this.length[net] = length;
            }
            return net;
        }

        int viewAt(int address, int tick) {
            int longest = 0;
            int found = COMMON_VIEW;
            for (int i = 0; i < spans.made; i++) {
                if (length[i] > longest && contains(i, address) && spans.isThere(i, tick)) {
                    longest = length[i];
                    found = view[i];
                }
            }
            return found;
        }

        boolean contains(int net, int address) {
            int freeBits = ADDRESS_BITS - length[net];
            return address >> freeBits == base[net] >> freeBits;
        }

        int countAddresses(int view, int tick) {
            int addresses = 0;
            for (int address = 0; address <= LAST_ADDRESS; address++) {
                if (viewAt(address, tick) == view) {
                    addresses++;
                }
            }
            return addresses;
        }
    }

    /** The zones, without their records. */
    private static final class Zones {
        static final int LIMIT = 10;

        final Spans spans = new Spans(LIMIT);
        final int[] view = new int[LIMIT];
        final int[] apex = new int[LIMIT];

        int make(int view, int apex, int tick) {
            int zone = spans.begin(tick);
            if (zone != NONE) {
                this.view[zone] = view;
                this.apex[zone] = apex;
            }
            return zone;
        }

        int find(int view, int apex, int tick) {
            for (int i = 0; i < spans.made; i++) {
                if (this.view[i] == view && this.apex[i] == apex && spans.isThere(i, tick)) {
                    return i;
                }
            }
            return NONE;
        }

        int responsible(int view, int name, int tick) {
            int best = NONE;
            for (int i = 0; i < spans.made; i++) {
                boolean isSeen = this.view[i] == view || this.view[i] == COMMON_VIEW;
                if (isSeen && Names.isAt(name, apex[i]) && spans.isThere(i, tick)
                        && (best == NONE || hides(i, best))) {
                    best = i;
                }
            }
            return best;
        }

        /** For two zones that one view sees and at whose apexes one name is. */
        boolean hides(int zone, int other) {
            if (apex[zone] == apex[other]) {
                return view[zone] != COMMON_VIEW;
            }
            return Names.isLonger(apex[zone], apex[other]);
        }
    }

    /**
     * All changes of all zones in their order. A change that sets a record is
     * also this record, there until another change of it; one that removes a
     * record is there at no tick.
     */
    private static final class Records {
        static final int LIMIT = 70;
        static final int REMOVED = -1;

        final Spans spans = new Spans(LIMIT);
        final int[] zone = new int[LIMIT];
        final int[] name = new int[LIMIT];
        final int[] type = new int[LIMIT];
        final int[] value = new int[LIMIT];

        int find(int zone, int name, int type, int tick) {
            for (int i = 0; i < spans.made; i++) {
                if (this.name[i] == name && this.type[i] == type && this.zone[i] == zone
                        && spans.isThere(i, tick)) {
                    return i;
                }
            }
            return NONE;
        }

        boolean exists(int zone, int name, int tick) {
            for (int i = 0; i < spans.made; i++) {
                if (this.zone[i] == zone && Names.isAt(this.name[i], name)
                        && spans.isThere(i, tick)) {
                    return true;
                }
            }
            return false;
        }

        void put(int zone, int name, int type, int value, int tick) {
            spans.end(find(zone, name, type, tick), tick);
            note(zone, name, type, value, tick);
        }

        void drop(int record, int tick) {
            if (spans.isMade(record)) {
                spans.end(record, tick);
                spans.end(note(zone[record], name[record], type[record], REMOVED, tick), tick);
            }
        }

        private int note(int zone, int name, int type, int value, int tick) {
            int change = spans.begin(tick);
            if (change != NONE) {
                this.zone[change] = zone;
                this.name[change] = name;
                this.type[change] = type;
                this.value[change] = value;
            }
            return change;
        }

        int countIn(int zone, int tick) {
            int there = 0;
            for (int i = 0; i < spans.made; i++) {
                if (this.zone[i] == zone && spans.isThere(i, tick)) {
                    there++;
                }
            }
            return there;
        }

        int countChanges(int zone, int tick) {
            int changes = 0;
            for (int i = 0; i < spans.made; i++) {
                if (this.zone[i] == zone && spans.from[i] <= tick) {
                    changes++;
                }
            }
            return changes;
        }

        int findChange(int zone, int index) {
            int before = 0;
            for (int i = 0; i < spans.made; i++) {
                if (this.zone[i] == zone) {
                    if (before == index) {
                        return i;
                    }
                    before++;
                }
            }
            return NONE;
        }
    }

    /** The zones with their records, and the answers that they give. */
    private static final class Catalog {
        static final int MOST_ALIASES = 4;

        final Zones zones = new Zones();
        final Records records = new Records();

        int lookUp(int view, int name, int type, int tick) {
            int record = recordBehind(view, name, type, tick);
            return record < 0 ? record : records.value[record];
        }

        /** The record that gives the answer; if this is no value, the answer itself. */
        int recordBehind(int view, int name, int type, int tick) {
            int asked = name;
            for (int aliases = 0; aliases <= MOST_ALIASES; aliases++) {
                int zone = zones.responsible(view, asked, tick);
                if (zone == NONE) {
                    return NO_ZONE;
                }
                int standing = standingFor(zone, asked, tick);
                if (standing == NONE) {
                    return NO_NAME;
                }
                int record = records.find(zone, standing, type, tick);
                if (record != NONE) {
                    return record;
                }
                int alias = records.find(zone, standing, ALIAS_TYPE, tick);
                if (alias == NONE) {
                    return NO_DATA;
                }
                asked = records.value[alias];
            }
            return TOO_LONG;
        }

        /** The name itself or the pattern that stands for it in a zone; NONE if neither exists. */
        int standingFor(int zone, int name, int tick) {
            if (records.exists(zone, name, tick)) {
                return name;
            }
            if (Names.isPattern(name)) {
                return NONE;
            }
            int pattern = Names.patternFor(name);
            boolean stands = Names.isBelow(pattern, zones.apex[zone])
                    && records.exists(zone, pattern, tick);
            return stands ? pattern : NONE;
        }

        int countRecords(int tick) {
            int there = 0;
            for (int zone = 0; zone < zones.spans.made; zone++) {
                if (zones.spans.isThere(zone, tick)) {
                    there += records.countIn(zone, tick);
                }
            }
            return there;
        }

        /** The latest tick, up to the given one, at which zones or records changed; 0 if none. */
        int lastEvent(int tick) {
            int last = 0;
            for (int i = 0; i < zones.spans.made; i++) {
                last = laterUpTo(tick, last, zones.spans.from[i]);
                last = laterUpTo(tick, last, zones.spans.until[i]);
            }
            for (int i = 0; i < records.spans.made; i++) {
                last = laterUpTo(tick, last, records.spans.from[i]);
            }
            return last;
        }

        private static int laterUpTo(int tick, int last, int event) {
            return event <= tick ? Math.max(last, event) : last;
        }
    }

    /** The kept answers, in the order in which they were found. */
    private static final class KeptAnswers {
        static final int LIMIT = 6;
        static final int FIRST_KEEPING = 3;

        final int[] address = new int[LIMIT];
        final int[] name = new int[LIMIT];
        final int[] type = new int[LIMIT];
        final int[] answer = new int[LIMIT];
        final int[] tick = new int[LIMIT];
        int size = 0;
        int hits = 0;
        int keeping = FIRST_KEEPING;

        int find(int address, int name, int type) {
            for (int i = 0; i < size; i++) {
                if (this.address[i] == address && this.name[i] == name && this.type[i] == type) {
                    return i;
                }
            }
            return NONE;
        }

        boolean isFresh(int place, int now) {
            return now - tick[place] <= keeping;
        }

        void keep(int address, int name, int type, int answer, int now) {
            int older = find(address, name, type);
            if (older != NONE) {
                forget(older);
            } else if (size >= LIMIT) {
                forget(0);
            }
            this.address[size] = address;
            this.name[size] = name;
            this.type[size] = type;
            this.answer[size] = answer;
            this.tick[size] = now;
            size++;
        }

        /** Closes the gap, so that the order stays that in which the answers were found. */
        private void forget(int place) {
            for (int i = place; i + 1 < size; i++) {
                address[i] = address[i + 1];
                name[i] = name[i + 1];
                type[i] = type[i + 1];
                answer[i] = answer[i + 1];
                tick[i] = tick[i + 1];
            }
            size--;
        }
    }

    /** The text, and the changes that were last read from it. */
    private static final class Text {
        static final int LIMIT = 60;
        // The shortest change is like "1:0-;".
        static final int MOST_CHANGES = LIMIT / 5;
        static final int MOST_DIGITS = 3;
        static final int NO_CHARACTER = -1;

        final int[] characters = new int[LIMIT];
        int length = 0;

        final int[] name = new int[MOST_CHANGES];
        final int[] type = new int[MOST_CHANGES];
        final int[] value = new int[MOST_CHANGES];
        int changes = 0;

        void append(int character) {
            if (length < LIMIT) {
                characters[length] = character;
                length++;
            }
        }

        /** Reads the changes of the text up to its fault, and answers this fault or NOT_FOUND. */
        int read() {
            changes = 0;
            int start = 0;
            for (int round = 0; round < MOST_CHANGES && start < length; round++) {
                int next = readChange(start);
                if (next == NONE) {
                    return start;
                }
                start = next;
            }
            return start < length ? start : NOT_FOUND;
        }

        boolean isAllAt(int apex) {
            for (int i = 0; i < changes; i++) {
                if (!Names.isAt(name[i], apex)) {
                    return false;
                }
            }
            return true;
        }

        /** Answers the position behind the change; NONE if it is not of the right form. */
        private int readChange(int start) {
            int colon = start + digits(start, '1', '4');
            int kind = characterAt(colon + 1) - '0';
            if (colon == start || characterAt(colon) != ':' || !isType(kind)) {
                return NONE;
            }
            int sign = colon + 2;
            int content = Records.REMOVED;
            int end = sign + 1;
            if (characterAt(sign) == '=') {
                end += kind == ALIAS_TYPE ? digits(end, '1', '4') : digits(end, '0', '9');
                content = kind == ALIAS_TYPE ? nameIn(sign + 1, end) : numberIn(sign + 1, end);
                if (end == sign + 1 || !isValue(kind, content)) {
                    return NONE;
                }
            } else if (characterAt(sign) != '-') {
                return NONE;
            }
            if (characterAt(end) != ';' || changes >= MOST_CHANGES) {
                return NONE;
            }
            name[changes] = nameIn(start, colon);
            type[changes] = kind;
            value[changes] = content;
            changes++;
            return end + 1;
        }

        private int characterAt(int position) {
            return position >= 0 && position < length ? characters[position] : NO_CHARACTER;
        }

        /** Counts the characters from low to high at a position, three at most. */
        private int digits(int start, int low, int high) {
            int found = 0;
            while (found < MOST_DIGITS && characterAt(start + found) >= low
                    && characterAt(start + found) <= high) {
                found++;
            }
            return found;
        }

        private int nameIn(int start, int end) {
            int number = 0;
            for (int i = end - 1; i >= start; i--) {
                number = number * Names.BASE + characterAt(i) - '0';
            }
            return number;
        }

        private int numberIn(int start, int end) {
            int number = 0;
            for (int i = start; i < end; i++) {
                number = number * 10 + characterAt(i) - '0';
            }
            return number;
        }
    }
}

import java.util.ArrayList;
import java.util.List;

/** Calls that return errors: which one of several, and that nothing is changed by them. */
final class Refused extends Setting {
    /** With two errors or more that apply, the first of which is INVALID_ARGUMENT. */
    private static final String[] INVALID_FIRST = {
        "pass 1001 = -1", "pass 0 = -1", "addNet 0 0 1 = -1", "addNet 1 256 1 = -1",
        "addNet 1 0 9 = -1", "addZone 4 .1 = -1", "addZone 0 .14 = -1", "addZone 0 0 = -1",
        "set 9 .11 0 1 = -1", "set 9 .111 0 256 = -1", "set 9 .111 3 1 = -1",
        "set 9 .111 1 0 = -1", "set 0 .2 0 1 = -1", "set 0 .1 2 1000 = -1",
        "clear 9 5 0 = -1", "clear 9 .111 3 = -1", "clear 10 .111 0 = -1", "clear 0 .2 -1 = -1",
        "record 9 5 0 9999 = -1", "record 9 .1 3 9999 = -1", "record 9 .1 0 10000 = -1",
        "record 0 .2 3 0 = -1", "zoneInfo 10 3 = -1", "change 0 70 4 = -1",
        "change 10 70 0 = -1", "lay 10 = -1", "lay -1 = -1", "zoneFor 4 .2 0 = -1",
        "zoneFor 0 .2 10000 = -1", "source 0 .2 3 0 = -1", "source 4 .2 0 0 = -1",
        "difference 0 0 0 10000 84 = -1", "difference 0 3 0 0 84 = -1", "type 127 = -1",
        "type 31 = -1"};

    /** In the full state. */
    private static final String[] NOT_POSSIBLE_FIRST = {
        "addZone 0 .1 = -2", "addZone 0 .111 = -2", "set 9 .111 0 1 = -2", "clear 9 .111 0 = -2",
        "clear 9 .111 2 = -2", "clear 9 .2 0 = -2", "record 9 .112 0 9999 = -2",
        "record 9 .2 2 9999 = -2", "lay 9 = -2"};

    /** In the full state, in which every change is one too many. */
    private static final String[] LIMIT_FIRST = {
        "clear 0 .111 1 = -3", "clear 0 .112 0 = -3", "clear 0 .2 0 = -3", "clear 8 .1 2 = -3"};

    private static final String[] IN_ORDINARY = {
        "pass 0 = -1", "pass 1001 = -1", "addNet 0 0 1 = -1", "addNet 4 0 1 = -1",
        "addNet 1 -1 1 = -1", "addNet 1 0 0 = -1", "removeNet 3 = -1", "removeNet -1 = -1",
        "removeNet 1 = -2", "viewOf 256 0 = -1", "viewOf 0 8 = -1", "addZone -1 .2 = -1",
        "addZone 0 .4 = -1", "addZone 0 .1 = -2", "addZone 1 .1 = -2", "removeZone 4 = -1",
        "removeZone 2 = -2", "zoneInfo 0 4 = -1", "zoneInfo 0 3 = -4", "count 6 = -1",
        "set 4 .111 0 1 = -1", "set 0 .2 0 1 = -1", "set 0 .1 0 256 = -1", "set 0 .1 1 5 = -1",
        "set 0 .1 2 1000 = -1", "set 0 .1 3 0 = -1", "set 2 .112 0 1 = -2",
        "clear 4 .1 0 = -1", "clear 0 25 0 = -1", "clear 0 .1 3 = -1", "clear 2 .112 0 = -2",
        "clear 0 .1 1 = -4", "clear 0 .14 2 = -4", "clear 0 .111 0 = -4", "clear 0 .2 0 = -4",
        "record 0 .1 0 8 = -1", "record 2 .112 0 3 = -2", "record 0 .13 0 7 = -4",
        "serial 4 0 = -1", "serial 0 8 = -1", "change 0 -1 0 = -1", "change 0 6 0 = -4",
        "lay 4 = -1", "lay 2 = -2", "lay 3 = -2", "answer 256 .1 0 0 = -1", "answer 0 .1 0 8 = -1",
        "viewAnswer 4 .1 0 0 = -1", "viewAnswer 0 .1 3 0 = -1", "zoneFor 0 .2 0 = -4",
        "zoneFor 0 26 0 = -1", "source 0 .2 0 0 = -4", "source 0 .1 0 8 = -1",
        "differences 0 0 0 8 = -1", "difference 0 0 0 0 0 = -4", "difference 0 0 0 0 -1 = -1",
        "split 0 4 0 0 = -1", "since 0 0 0 = -1", "seenBy 125 0 0 0 = -1", "seenBy .1 3 0 0 = -1",
        "setKeeping 101 = -1", "setKeeping -1 = -1", "ask 256 .1 0 = -1", "ask 0 26 0 = -1",
        "ask 0 .1 3 = -1", "ask -1 .2 0 = -1", "type 127 = -1", "type 31 = -1"};

    private static final String[] IN_FULL = {
        "pass 1 = -3", "pass 1000 = -3", "addNet 1 0 1 = -3", "removeNet 9 = -2",
        "removeNet 10 = -1", "addZone 3 .2 = -3", "addZone 1 .111 = -3", "removeZone 9 = -2",
        "removeZone 10 = -1", "set 0 .1 0 1 = -3", "set 0 .111 0 1 = -3", "clear 0 .111 0 = -3",
        "lay 0 = -3", "type 49 = -3", "type 126 = -3", "ask 256 .111 0 = -1",
        "setKeeping 101 = -1"};

    private static final String[] IN_NEW = {
        "pass 0 = -1", "removeNet 0 = -1", "removeZone 0 = -1", "set 0 .1 0 1 = -1",
        "clear 0 .1 0 = -1", "lay 0 = -1", "ask 0 0 0 = -1", "addNet 0 0 1 = -1",
        "addZone 0 .4 = -1", "setKeeping -1 = -1", "type 0 = -1", "zoneFor 0 .1 0 = -4"};

    private Refused() {
    }

    private static void inState(State state, String... calls) {
        for (String line : calls) {
            run(state.build(), line);
        }
    }

    static void invalidRatherThanNotPossible() {
        inState(State.FULL, INVALID_FIRST);
    }

    static void notPossibleRatherThanLimit() {
        inState(State.FULL, NOT_POSSIBLE_FIRST);
        // The text has a fault, or a name that is not at the apex, and too many changes.
        for (String text : new String[] {"1:0-;1", "1:0-;2:0-;", "1:0=1;1:0=256;"}) {
            ViewedNames x = State.FULL.build();
            write(x, text);
            run(x, "lay 0 = -2", "count 3 = 70");
        }
    }

    static void limitRatherThanNotFound() {
        inState(State.FULL, LIMIT_FIRST);
    }

    static void changeNothing() {
        unchanged(State.NEW, IN_NEW);
        unchanged(State.ORDINARY, IN_ORDINARY);
        unchanged(State.FULL, IN_FULL);
        unchanged(State.FULL, INVALID_FIRST);
        unchanged(State.FULL, NOT_POSSIBLE_FIRST);
        unchanged(State.FULL, LIMIT_FIRST);
    }

    private static void unchanged(State state, String... calls) {
        for (int part = 0; part < PARTS; part++) {
            List<Integer> want = look(state.build(), state, part);
            for (String line : calls) {
                ViewedNames x = state.build();
                run(x, line, line);
                Due.holds(state + " is changed, part " + part + ", by " + line,
                        look(x, state, part).equals(want));
            }
        }
    }

    private static final int PARTS = 5;

    /** All that can be seen of an object, in parts, since an object is good for 512 calls. */
    private static List<Integer> look(ViewedNames x, State state, int part) {
        List<Integer> seen = new ArrayList<>();
        switch (part) {
            case 0: lookAtNetsAndZones(x, state, seen); break;
            case 1: lookAtChanges(x, state, seen); break;
            case 2: lookAtAnswers(x, state, seen); break;
            case 3: lookAtKept(x, seen); break;
            default: lookAtText(x, state, seen); break;
        }
        return seen;
    }

    private static void lookAtNetsAndZones(ViewedNames x, State state, List<Integer> seen) {
        seen.add(x.time());
        for (int what = 0; what <= 5; what++) {
            seen.add(x.count(what));
        }
        for (int address = 0; address <= 255; address += 3) {
            seen.add(x.viewOf(address, state.time()));
            seen.add(x.viewOf(address, 0));
        }
        for (int zone = 0; zone < state.zones; zone++) {
            for (int what = 0; what <= 3; what++) {
                seen.add(x.zoneInfo(zone, what));
            }
            seen.add(x.serial(zone, 0));
            seen.add(x.serial(zone, state.time()));
        }
        seen.add(x.addNet(1, 0, 1));
        seen.add(x.addZone(3, n("3")));
        seen.add(x.addZone(0, n("2")));
        seen.add(x.pass(1));
    }

    private static void lookAtChanges(ViewedNames x, State state, List<Integer> seen) {
        for (int zone = 0; zone < state.zones; zone++) {
            int changes = x.serial(zone, state.time());
            for (int index = 0; index <= changes; index++) {
                for (int what = 0; what <= 3; what++) {
                    seen.add(x.change(zone, index, what));
                }
            }
        }
    }

    private static void lookAtAnswers(ViewedNames x, State state, List<Integer> seen) {
        for (String name : allNames()) {
            for (int view = 0; view <= 3; view++) {
                seen.add(x.viewAnswer(view, n(name), n(name) % 3, state.time()));
            }
        }
    }

    private static void lookAtKept(ViewedNames x, List<Integer> seen) {
        seen.add(x.stale());
        seen.add(x.setKeeping(100));
        seen.add(x.stale());
        for (int address = 0; address <= 255; address += 5) {
            seen.add(x.ask(address, n("111"), address / 40 % 3));
            seen.add(x.count(4));
            seen.add(x.count(5));
        }
        for (int name : new int[] {n("1"), n("12"), n("111")}) {
            seen.add(x.ask(0, name, 0));
            seen.add(x.ask(200, name, 0));
            seen.add(x.ask(255, name, 0));
            seen.add(x.count(5));
        }
        // A K of a call that was refused would be told here.
        seen.add(x.setKeeping(0));
    }

    private static void lookAtText(ViewedNames x, State state, List<Integer> seen) {
        seen.add(x.fault());
        seen.add(x.lay(0));
        for (int index = 0; index < 20 && state.zones > 0; index++) {
            seen.add(x.change(0, index, 1));
            seen.add(x.change(0, index, 3));
        }
        seen.add(x.type('x'));
        seen.add(x.fault());
        seen.add(x.clearText());
        seen.add(x.clearText());
    }
}

/** Each promise of the document with ordinary inputs, edges and wrong inputs. */
public final class PromisesTest extends Setting {
    private static final int[] NO_NAMES = {Integer.MIN_VALUE, -1, 0, 5, 10, 20, 25, 26, 29, 30, 50,
        51, 75, 100, 104, 105, 120, 125, 126, Integer.MAX_VALUE};

    private static void faultIs(String text, int want) {
        ViewedNames x = new ViewedNames();
        write(x, text);
        Due.is("fault of " + text, x.fault(), want);
        Due.is("fault again of " + text, x.fault(), want);
    }

    private static void promise01NewObject() {
        ViewedNames x = new ViewedNames();
        Due.is("time", x.time(), 0);
        for (int what = 0; what <= 5; what++) {
            Due.is("count " + what, x.count(what), 0);
        }
        Due.is("viewOf", x.viewOf(255, 0), 0);
        Due.is("viewAnswer", x.viewAnswer(3, n("444"), 2, 0), NO_ZONE);
        Due.is("zoneInfo", x.zoneInfo(0, 0), INVALID);
        Due.is("removeNet", x.removeNet(0), INVALID);
        Due.is("fault", x.fault(), NOT_FOUND);
        Due.is("clearText", x.clearText(), 0);
        Due.is("setKeeping", x.setKeeping(5), 3);
        Due.is("another object's K", new ViewedNames().setKeeping(5), 3);
    }

    private static void promise02Pass() {
        ViewedNames x = new ViewedNames();
        Due.is("pass(0)", x.pass(0), INVALID);
        Due.is("pass(-1)", x.pass(-1), INVALID);
        Due.is("pass(1001)", x.pass(1001), INVALID);
        Due.is("pass(max)", x.pass(Integer.MAX_VALUE), INVALID);
        Due.is("pass(1)", x.pass(1), 1);
        for (int i = 1; i <= 9; i++) {
            Due.is("pass(1000)", x.pass(1000), 1000 * i + 1);
        }
        Due.is("pass(999)", x.pass(999), LIMIT);
        Due.is("pass(1001) near the end", x.pass(1001), INVALID);
        Due.is("pass(998)", x.pass(998), 9999);
        Due.is("pass(1) at the end", x.pass(1), LIMIT);
        Due.is("time", x.time(), 9999);
    }

    private static void promise03Time() {
        ViewedNames x = new ViewedNames();
        x.pass(7);
        Due.is("time", x.time(), 7);
        x.pass(0);
        Due.is("time after an error", x.time(), 7);
        x.pass(1000);
        Due.is("time", x.time(), 1007);
    }

    private static void promise04AddNet() {
        ViewedNames x = new ViewedNames();
        int[][] bad = {{0, 0, 1}, {4, 0, 1}, {-1, 0, 1}, {1, -1, 1}, {1, 256, 1}, {1, 0, 0},
            {1, 0, 9}, {1, 0, -1}};
        for (int[] a : bad) {
            Due.is("addNet", x.addNet(a[0], a[1], a[2]), INVALID);
        }
        for (int i = 0; i < 10; i++) {
            Due.is("addNet " + i, x.addNet(i % 3 + 1, i == 9 ? 255 : i, i % 8 + 1), i);
        }
        Due.is("the eleventh", x.addNet(1, 0, 1), LIMIT);
        Due.is("the eleventh, wrong", x.addNet(0, 0, 1), INVALID);
        x.removeNet(3);
        Due.is("the eleventh after a removal", x.addNet(1, 0, 1), LIMIT);
        Due.is("count", x.count(0), 9);
    }

    private static void promise05RemoveNet() {
        ViewedNames x = new ViewedNames();
        Due.is("none made", x.removeNet(0), INVALID);
        x.addNet(3, 0, 1);
        x.addNet(2, 0, 2);
        Due.is("negative", x.removeNet(-1), INVALID);
        Due.is("never made", x.removeNet(2), INVALID);
        Due.is("removeNet(1)", x.removeNet(1), 2);
        Due.is("removeNet(1) again", x.removeNet(1), NOT_POSSIBLE);
        Due.is("at no tick", x.viewOf(0, 0), 3);
        x.pass(2);
        Due.is("removeNet(0)", x.removeNet(0), 3);
        Due.is("before", x.viewOf(0, 1), 3);
        Due.is("at its removal", x.viewOf(0, 2), 0);
        Due.is("count", x.count(0), 0);
    }

    private static void promise06ViewOf() {
        ViewedNames x = new ViewedNames();
        x.pass(1);
        x.addNet(1, 0b10110101, 3);
        x.addNet(2, 0b10111111, 5);
        x.addNet(3, 0b10111000, 5);
        x.addNet(3, 0b10100000, 8);
        Due.is("first address", x.viewOf(0b10100001, 1), 1);
        Due.is("last address", x.viewOf(0b10110111, 1), 1);
        Due.is("below the net", x.viewOf(0b10011111, 1), 0);
        Due.is("above the net", x.viewOf(0b11000000, 1), 0);
        Due.is("longer, lower number", x.viewOf(0b10111010, 1), 2);
        Due.is("whole address", x.viewOf(0b10100000, 1), 3);
        Due.is("before it was made", x.viewOf(0b10100000, 0), 0);
        Due.is("address -1", x.viewOf(-1, 0), INVALID);
        Due.is("address 256", x.viewOf(256, 0), INVALID);
        Due.is("tick -1", x.viewOf(0, -1), INVALID);
        Due.is("tick T+1", x.viewOf(0, 2), INVALID);
    }

    private static void promise07AddZone() {
        ViewedNames x = new ViewedNames();
        for (int name : NO_NAMES) {
            Due.is("addZone apex " + name, x.addZone(0, name), INVALID);
        }
        Due.is("view -1", x.addZone(-1, 1), INVALID);
        Due.is("view 4", x.addZone(4, 1), INVALID);
        for (String pattern : new String[] {"4", "14", "114", "444"}) {
            Due.is("pattern " + pattern, x.addZone(0, n(pattern)), INVALID);
        }
        Due.is("4 inside", x.addZone(0, n("442")), 0);
        Due.is("again", x.addZone(0, n("442")), NOT_POSSIBLE);
        Due.is("in another view", x.addZone(1, n("442")), 1);
        x.removeZone(0);
        Due.is("after a removal", x.addZone(0, n("442")), 2);
        String[] apexes = {"1", "2", "3", "11", "12", "13", "111"};
        for (int i = 0; i < apexes.length; i++) {
            Due.is("addZone " + apexes[i], x.addZone(3, n(apexes[i])), i + 3);
        }
        Due.is("the eleventh", x.addZone(2, n("3")), LIMIT);
        Due.is("the eleventh, there already", x.addZone(0, n("442")), NOT_POSSIBLE);
        Due.is("the eleventh, wrong", x.addZone(0, 0), INVALID);
    }

    private static void promise08RemoveZone() {
        ViewedNames x = new ViewedNames();
        Due.is("none made", x.removeZone(0), INVALID);
        x.addZone(0, n("1"));
        x.addZone(1, n("1"));
        x.set(0, n("1"), 0, 1);
        x.set(0, n("1"), 2, 1);
        x.set(0, n("1"), 2, 2);
        x.set(0, n("12"), 1, n("3"));
        x.clear(0, n("1"), 0);
        x.set(1, n("1"), 0, 1);
        Due.is("negative", x.removeZone(-1), INVALID);
        Due.is("never made", x.removeZone(2), INVALID);
        x.pass(4);
        Due.is("removeZone(0)", x.removeZone(0), 2);
        Due.is("again", x.removeZone(0), NOT_POSSIBLE);
        Due.is("before", x.viewAnswer(0, n("1"), 2, 3), 2);
        Due.is("at its removal", x.viewAnswer(0, n("1"), 2, 4), NO_ZONE);
        Due.is("records of the other zone", x.count(2), 1);
        Due.is("anew", x.addZone(0, n("1")), 2);
        Due.is("without records", x.removeZone(2), 0);
        Due.is("at no tick", x.zoneFor(0, n("1"), 4), NOT_FOUND);
    }

    private static void promise09ZoneInfo() {
        ViewedNames x = new ViewedNames();
        Due.is("none made", x.zoneInfo(0, 3), INVALID);
        x.pass(5);
        x.addZone(2, n("13"));
        x.addZone(0, n("3"));
        x.pass(2);
        Due.is("view", x.zoneInfo(0, 0), 2);
        Due.is("apex", x.zoneInfo(0, 1), n("13"));
        Due.is("made", x.zoneInfo(0, 2), 5);
        Due.is("not removed", x.zoneInfo(0, 3), NOT_FOUND);
        x.removeZone(0);
        x.pass(1);
        Due.is("removed", x.zoneInfo(0, 3), 7);
        Due.is("view after removal", x.zoneInfo(0, 0), 2);
        Due.is("apex after removal", x.zoneInfo(0, 1), n("13"));
        Due.is("the other one", x.zoneInfo(1, 3), NOT_FOUND);
        Due.is("what -1", x.zoneInfo(0, -1), INVALID);
        Due.is("what 4", x.zoneInfo(0, 4), INVALID);
        Due.is("zone -1", x.zoneInfo(-1, 0), INVALID);
        Due.is("zone 2", x.zoneInfo(2, 0), INVALID);
    }

    private static void promise10Count() {
        ViewedNames x = new ViewedNames();
        x.addNet(1, 0, 1);
        x.addNet(1, 128, 1);
        x.removeNet(0);
        x.addZone(0, n("1"));
        x.addZone(0, n("2"));
        x.addZone(0, n("3"));
        x.set(0, n("1"), 0, 1);
        x.set(1, n("2"), 0, 1);
        x.set(1, n("2"), 0, 2);
        x.set(2, n("31"), 0, 2);
        x.set(2, n("32"), 0, 2);
        x.clear(2, n("32"), 0);
        x.clear(2, n("32"), 0);
        Due.is("records of all zones", x.count(2), 3);
        x.removeZone(0);
        x.ask(0, n("1"), 0);
        x.ask(0, n("1"), 0);
        x.ask(0, n("1"), 0);
        x.ask(0, n("2"), 0);
        Due.is("nets", x.count(0), 1);
        Due.is("zones", x.count(1), 2);
        Due.is("records", x.count(2), 2);
        Due.is("changes", x.count(3), 6);
        Due.is("kept", x.count(4), 2);
        Due.is("hits", x.count(5), 2);
        Due.is("count(6)", x.count(6), INVALID);
        Due.is("count(-1)", x.count(-1), INVALID);
        x.pass(100);
        Due.is("old answers are kept", x.count(4), 2);
    }

    private static void promise11Set() {
        ViewedNames x = new ViewedNames();
        Due.is("no zone", x.set(0, n("1"), 0, 0), INVALID);
        x.addZone(0, n("12"));
        for (int name : NO_NAMES) {
            Due.is("name " + name, x.set(0, name, 0, 0), INVALID);
            Due.is("alias to " + name, x.set(0, n("12"), 1, name), INVALID);
        }
        String[] outside = {"1", "2", "11", "13", "21", "212", "112"};
        for (String name : outside) {
            Due.is("outside " + name, x.set(0, n(name), 0, 0), INVALID);
        }
        Due.is("type -1", x.set(0, n("12"), -1, 0), INVALID);
        Due.is("type 3", x.set(0, n("12"), 3, 0), INVALID);
        Due.is("address -1", x.set(0, n("12"), 0, -1), INVALID);
        Due.is("address 256", x.set(0, n("12"), 0, 256), INVALID);
        Due.is("number -1", x.set(0, n("12"), 2, -1), INVALID);
        Due.is("number 1000", x.set(0, n("12"), 2, 1000), INVALID);
        Due.is("no change", x.count(3), 0);
        Due.is("address 0", x.set(0, n("12"), 0, 0), 1);
        Due.is("address 255", x.set(0, n("12"), 0, 255), 1);
        Due.is("number 0", x.set(0, n("12"), 2, 0), 2);
        Due.is("number 999", x.set(0, n("12"), 2, 999), 2);
        Due.is("number 999 again is a change", x.set(0, n("12"), 2, 999), 2);
        Due.is("alias outside", x.set(0, n("124"), 1, n("444")), 3);
        Due.is("changes", x.count(3), 6);
        x.removeZone(0);
        Due.is("removed", x.set(0, n("12"), 0, 0), NOT_POSSIBLE);
        Due.is("removed, wrong", x.set(0, n("1"), 0, 0), INVALID);

        ViewedNames y = fullOfChanges();
        Due.is("no second label", y.set(0, 26, 0, 0), INVALID);
        Due.is("the 71st", y.set(0, n("1"), 0, 0), LIMIT);
        Due.is("nothing was set", y.record(0, n("1"), 0, 0), NOT_FOUND);
        Due.is("the 71st, wrong", y.set(0, n("2"), 0, 0), INVALID);
        y.removeZone(0);
        Due.is("the 71st, removed", y.set(0, n("1"), 0, 0), NOT_POSSIBLE);
    }

    private static void promise12Clear() {
        ViewedNames x = new ViewedNames();
        Due.is("no zone", x.clear(0, n("1"), 0), INVALID);
        x.addZone(1, n("1"));
        x.set(0, n("14"), 1, n("3"));
        x.set(0, n("14"), 0, 0);
        for (int name : NO_NAMES) {
            Due.is("name " + name, x.clear(0, name, 0), INVALID);
        }
        Due.is("type -1", x.clear(0, n("14"), -1), INVALID);
        Due.is("type 3", x.clear(0, n("14"), 3), INVALID);
        Due.is("outside the apex", x.clear(0, n("2"), 0), NOT_FOUND);
        Due.is("other type", x.clear(0, n("14"), 2), NOT_FOUND);
        Due.is("alias", x.clear(0, n("14"), 1), n("3"));
        Due.is("alias again", x.clear(0, n("14"), 1), NOT_FOUND);
        Due.is("address 0", x.clear(0, n("14"), 0), 0);
        Due.is("changes", x.count(3), 4);
        Due.is("set again", x.set(0, n("14"), 0, 9), 1);
        x.removeZone(0);
        Due.is("removed", x.clear(0, n("14"), 0), NOT_POSSIBLE);
        Due.is("removed, wrong", x.clear(0, 0, 0), INVALID);

        ViewedNames y = fullOfChanges();
        Due.is("the 71st", y.clear(0, n("1"), 2), LIMIT);
        Due.is("the 71st, not there", y.clear(0, n("1"), 0), LIMIT);
        Due.is("still there", y.record(0, n("1"), 2, 0), 69);
    }

    private static void promise13Record() {
        ViewedNames x = new ViewedNames();
        Due.is("no zone", x.record(0, n("1"), 0, 0), INVALID);
        x.pass(2);
        x.addZone(0, n("1"));
        x.pass(1);
        x.set(0, n("1"), 2, 100);
        x.set(0, n("1"), 2, 200);
        x.pass(1);
        x.clear(0, n("1"), 2);
        x.set(0, n("1"), 2, 300);
        x.pass(1);
        x.clear(0, n("1"), 2);
        x.pass(1);
        Due.is("before the zone", x.record(0, n("1"), 2, 1), NOT_POSSIBLE);
        Due.is("before the record", x.record(0, n("1"), 2, 2), NOT_FOUND);
        Due.is("last one of the tick", x.record(0, n("1"), 2, 3), 200);
        Due.is("set after clear", x.record(0, n("1"), 2, 4), 300);
        Due.is("cleared", x.record(0, n("1"), 2, 5), NOT_FOUND);
        Due.is("outside", x.record(0, n("2"), 2, 5), NOT_FOUND);
        Due.is("a pattern does not stand here", x.record(0, n("11"), 2, 4), NOT_FOUND);
        x.removeZone(0);
        Due.is("removed", x.record(0, n("1"), 2, 6), NOT_POSSIBLE);
        Due.is("before removal", x.record(0, n("1"), 2, 4), 300);
        Due.is("zone -1", x.record(-1, n("1"), 2, 4), INVALID);
        Due.is("zone 1", x.record(1, n("1"), 2, 4), INVALID);
        Due.is("tick -1", x.record(0, n("1"), 2, -1), INVALID);
        Due.is("tick 7", x.record(0, n("1"), 2, 7), INVALID);
        Due.is("type -1", x.record(0, n("1"), -1, 4), INVALID);
        Due.is("type 3", x.record(0, n("1"), 3, 4), INVALID);
        for (int name : NO_NAMES) {
            Due.is("name " + name, x.record(0, name, 2, 4), INVALID);
        }
    }

    private static void promise14Serial() {
        ViewedNames x = new ViewedNames();
        Due.is("no zone", x.serial(0, 0), INVALID);
        x.addZone(0, n("1"));
        x.pass(1);
        x.addZone(0, n("2"));
        x.set(0, n("1"), 0, 1);
        x.set(0, n("1"), 0, 1);
        x.set(1, n("2"), 0, 1);
        x.pass(3);
        x.clear(0, n("1"), 0);
        x.clear(0, n("1"), 0);
        x.removeZone(0);
        x.pass(1);
        int[] want = {0, 2, 2, 2, 3, 3};
        for (int tick = 0; tick <= 5; tick++) {
            Due.is("serial at " + tick, x.serial(0, tick), want[tick]);
            Due.is("serial of 1 at " + tick, x.serial(1, tick), tick == 0 ? 0 : 1);
        }
        Due.is("tick -1", x.serial(0, -1), INVALID);
        Due.is("tick 6", x.serial(0, 6), INVALID);
        Due.is("zone -1", x.serial(-1, 0), INVALID);
        Due.is("zone 2", x.serial(2, 0), INVALID);
    }

    private static void promise15Change() {
        ViewedNames x = new ViewedNames();
        Due.is("no zone", x.change(0, 0, 0), INVALID);
        x.addZone(0, n("1"));
        x.addZone(0, n("2"));
        x.set(0, n("1"), 0, 7);
        x.pass(3);
        x.set(1, n("21"), 2, 500);
        x.set(0, n("134"), 1, n("42"));
        x.pass(1);
        x.clear(0, n("1"), 0);
        x.clear(0, n("1"), 0);
        x.removeZone(0);
        int[][] want = {{0, n("1"), 0, 7}, {3, n("134"), 1, n("42")}, {4, n("1"), 0, -1}};
        for (int index = 0; index < want.length; index++) {
            for (int what = 0; what <= 3; what++) {
                Due.is("change " + index + " what " + what, x.change(0, index, what),
                        want[index][what]);
            }
        }
        Due.is("of the other zone", x.change(1, 0, 3), 500);
        Due.is("not so many", x.change(0, 3, 0), NOT_FOUND);
        Due.is("not so many", x.change(1, 1, 0), NOT_FOUND);
        Due.is("not nearly so many", x.change(0, Integer.MAX_VALUE, 0), NOT_FOUND);
        Due.is("not so many, wrong", x.change(0, 3, 4), INVALID);
        Due.is("index -1", x.change(0, -1, 0), INVALID);
        Due.is("what -1", x.change(0, 0, -1), INVALID);
        Due.is("what 4", x.change(0, 0, 4), INVALID);
        Due.is("zone 2", x.change(2, 0, 0), INVALID);
        Due.is("zone -1", x.change(-1, 0, 0), INVALID);
    }

    private static void promise16Lay() {
        ViewedNames x = new ViewedNames();
        Due.is("no zone", x.lay(0), INVALID);
        x.addZone(0, n("2"));
        Due.is("empty text", x.lay(0), 0);
        Due.is("zone -1", x.lay(-1), INVALID);
        Due.is("zone 1", x.lay(1), INVALID);
        write(x, "2:0=007;21:1=3;2:0-;2:0-;2:2=999;214:0=0;");
        Due.is("lay", x.lay(0), 3);
        Due.is("changes", x.count(3), 5);
        Due.is("address", x.record(0, n("2"), 0, 0), NOT_FOUND);
        Due.is("alias out of the zone", x.record(0, n("21"), 1, 0), n("3"));
        Due.is("number", x.record(0, n("2"), 2, 0), 999);
        Due.is("labels in their order", x.record(0, n("214"), 0, 0), 0);
        Due.is("second change", x.change(0, 1, 1), n("21"));
        Due.is("removal", x.change(0, 2, 3), -1);
        Due.is("the text stays", x.lay(0), 3);
        Due.is("changes", x.count(3), 10);
        write(x, "2:0=1;3:0=2;");
        Due.is("outside the apex", x.lay(0), NOT_POSSIBLE);
        write(x, "3:0=1;2:0=2;");
        Due.is("outside the apex at first", x.lay(0), NOT_POSSIBLE);
        write(x, "2:0=1;12:0-;");
        Due.is("removal outside the apex", x.lay(0), NOT_POSSIBLE);
        write(x, "2:0=1;2:0=2");
        Due.is("fault", x.lay(0), NOT_POSSIBLE);
        Due.is("fault, no zone", x.lay(1), INVALID);
        Due.is("nothing was made", x.count(3), 10);
        x.removeZone(0);
        x.clearText();
        Due.is("removed", x.lay(0), NOT_POSSIBLE);
    }

    private static void promise16LayAtTheLimit() {
        ViewedNames x = new ViewedNames();
        x.addZone(0, n("1"));
        for (int i = 0; i < 67; i++) {
            x.set(0, n("1"), 2, i);
        }
        write(x, "1:0=1;1:0=2;1:1-;1:0=3;");
        Due.is("one that would do nothing counts", x.lay(0), LIMIT);
        Due.is("none is made", x.record(0, n("1"), 0, 0), NOT_FOUND);
        write(x, "1:0=1;2:0=2;1:1-;1:0=3;");
        Due.is("outside the apex goes first", x.lay(0), NOT_POSSIBLE);
        write(x, "1:0=1;1:1-;1:0=3;");
        Due.is("just enough room", x.lay(0), 2);
        Due.is("changes", x.count(3), 69);
        write(x, "1:1-;");
        Due.is("room for one", x.lay(0), 2);
        x.set(0, n("1"), 0, 0);
        Due.is("no room", x.lay(0), LIMIT);
        x.clearText();
        Due.is("empty text at the limit", x.lay(0), 2);
        x.removeZone(0);
        write(x, "1:1-;");
        Due.is("removed goes first", x.lay(0), NOT_POSSIBLE);
    }

    /** The common zone 1, hidden for view 1 by another one, and for view 2 below 1.2. */
    private static ViewedNames views() {
        ViewedNames x = new ViewedNames();
        x.addZone(0, n("1"));
        x.addZone(1, n("1"));
        x.addZone(2, n("12"));
        x.addNet(1, 0, 2);
        x.addNet(2, 64, 2);
        x.set(0, n("1"), 0, 10);
        x.set(0, n("12"), 0, 11);
        x.set(0, n("14"), 2, 12);
        x.set(1, n("1"), 0, 20);
        x.set(2, n("123"), 0, 30);
        x.pass(2);
        x.set(0, n("12"), 0, 13);
        x.removeNet(1);
        return x;
    }

    private static void promise17Answer() {
        ViewedNames x = views();
        Due.is("view 1", x.answer(63, n("1"), 0, 2), 20);
        Due.is("view 2 falls back on the common view", x.answer(64, n("1"), 0, 0), 10);
        Due.is("view 2", x.answer(127, n("12"), 0, 0), NO_DATA);
        Due.is("view 0 now", x.answer(127, n("12"), 0, 2), 13);
        Due.is("view 2 at tick 1", x.answer(127, n("12"), 0, 1), NO_DATA);
        Due.is("view 0 at tick 1", x.answer(128, n("12"), 0, 1), 11);
        Due.is("address -1", x.answer(-1, n("1"), 0, 0), INVALID);
        Due.is("address 256", x.answer(256, n("1"), 0, 0), INVALID);
        Due.is("type 3", x.answer(0, n("1"), 3, 0), INVALID);
        Due.is("type -1", x.answer(0, n("1"), -1, 0), INVALID);
        Due.is("tick -1", x.answer(0, n("1"), 0, -1), INVALID);
        Due.is("tick 3", x.answer(0, n("1"), 0, 3), INVALID);
        for (int name : NO_NAMES) {
            Due.is("name " + name, x.answer(0, name, 0, 0), INVALID);
        }
    }

    private static void promise18ViewAnswer() {
        ViewedNames x = views();
        Due.is("no zone", x.viewAnswer(1, n("21"), 0, 0), NO_ZONE);
        Due.is("hidden", x.viewAnswer(1, n("12"), 0, 0), NO_NAME);
        Due.is("hidden pattern", x.viewAnswer(1, n("13"), 2, 0), NO_NAME);
        Due.is("pattern stands", x.viewAnswer(3, n("13"), 2, 0), 12);
        Due.is("pattern itself", x.viewAnswer(3, n("14"), 2, 0), 12);
        Due.is("a name that exists", x.viewAnswer(3, n("12"), 2, 0), NO_DATA);
        Due.is("no pattern two labels off", x.viewAnswer(3, n("131"), 2, 0), NO_NAME);
        Due.is("pattern below a pattern", x.viewAnswer(3, n("144"), 2, 0), NO_NAME);
        Due.is("the longer apex", x.viewAnswer(2, n("123"), 0, 0), 30);
        Due.is("exists by a name below", x.viewAnswer(2, n("12"), 0, 0), NO_DATA);
        Due.is("no alias for view 0", x.viewAnswer(0, n("1"), 1, 0), NO_DATA);
        Due.is("tick 1", x.viewAnswer(0, n("12"), 0, 1), 11);
        Due.is("tick 2", x.viewAnswer(0, n("12"), 0, 2), 13);
        Due.is("view -1", x.viewAnswer(-1, n("1"), 0, 0), INVALID);
        Due.is("view 4", x.viewAnswer(4, n("1"), 0, 0), INVALID);
        Due.is("type -1", x.viewAnswer(0, n("1"), -1, 0), INVALID);
        Due.is("type 3", x.viewAnswer(0, n("1"), 3, 0), INVALID);
        Due.is("tick -1", x.viewAnswer(0, n("1"), 0, -1), INVALID);
        Due.is("tick 3", x.viewAnswer(0, n("1"), 0, 3), INVALID);
        for (int name : NO_NAMES) {
            Due.is("name " + name, x.viewAnswer(0, name, 0, 0), INVALID);
        }
    }

    private static void promise18Apexes() {
        ViewedNames x = new ViewedNames();
        x.addZone(0, n("13"));
        Due.is("an empty zone", x.viewAnswer(0, n("13"), 0, 0), NO_NAME);
        x.addZone(0, n("1"));
        x.set(1, n("14"), 0, 5);
        Due.is("no pattern for the apex", x.viewAnswer(0, n("13"), 0, 0), NO_NAME);
        Due.is("a pattern of another zone", x.viewAnswer(0, n("132"), 0, 0), NO_NAME);
        x.set(0, n("134"), 0, 6);
        Due.is("the apex exists now", x.viewAnswer(0, n("13"), 0, 0), NO_DATA);
        Due.is("pattern", x.viewAnswer(0, n("132"), 0, 0), 6);
        x.clear(1, n("14"), 0);
        x.set(1, n("142"), 0, 7);
        Due.is("a pattern that exists by a name below", x.viewAnswer(0, n("12"), 0, 0), NO_DATA);
        Due.is("the pattern itself", x.viewAnswer(0, n("14"), 0, 0), NO_DATA);
        Due.is("below it", x.viewAnswer(0, n("142"), 0, 0), 7);
    }

    private static void promise18Aliases() {
        ViewedNames x = new ViewedNames();
        x.addZone(0, n("1"));
        x.addZone(1, n("2"));
        x.set(0, n("11"), 1, n("12"));
        x.set(0, n("12"), 1, n("13"));
        x.set(0, n("13"), 1, n("21"));
        x.set(1, n("21"), 1, n("22"));
        x.set(1, n("22"), 0, 99);
        Due.is("four aliases", x.viewAnswer(1, n("11"), 0, 0), 99);
        Due.is("no zone behind aliases", x.viewAnswer(0, n("11"), 0, 0), NO_ZONE);
        Due.is("no data behind aliases", x.viewAnswer(1, n("11"), 2, 0), NO_DATA);
        Due.is("asked for the alias", x.viewAnswer(1, n("11"), 1, 0), n("12"));
        x.set(1, n("22"), 1, n("23"));
        Due.is("the type goes before the alias", x.viewAnswer(1, n("11"), 0, 0), 99);
        Due.is("five aliases", x.viewAnswer(1, n("11"), 2, 0), TOO_LONG);
        Due.is("no name behind four", x.viewAnswer(1, n("12"), 2, 0), NO_NAME);
        x.set(1, n("24"), 1, n("22"));
        x.set(1, n("22"), 1, n("13"));
        Due.is("alias of a pattern", x.viewAnswer(1, n("23"), 0, 0), 99);
        Due.is("a round", x.viewAnswer(1, n("23"), 2, 0), TOO_LONG);
    }

    private static void promise19ZoneFor() {
        ViewedNames x = views();
        Due.is("view 0", x.zoneFor(0, n("123"), 0), 0);
        Due.is("view 1", x.zoneFor(1, n("123"), 0), 1);
        Due.is("view 2", x.zoneFor(2, n("123"), 0), 2);
        Due.is("view 2, apex", x.zoneFor(2, n("12"), 0), 2);
        Due.is("view 2, above", x.zoneFor(2, n("1"), 0), 0);
        Due.is("view 3", x.zoneFor(3, n("444"), 0), NOT_FOUND);
        x.addZone(0, n("12"));
        Due.is("longer and common", x.zoneFor(1, n("123"), 2), 3);
        Due.is("of the same apex that of the view", x.zoneFor(2, n("123"), 2), 2);
        Due.is("earlier", x.zoneFor(1, n("123"), 1), 1);
        x.removeZone(2);
        Due.is("not hidden any more", x.zoneFor(2, n("123"), 2), 3);
        Due.is("view -1", x.zoneFor(-1, n("1"), 0), INVALID);
        Due.is("view 4", x.zoneFor(4, n("1"), 0), INVALID);
        Due.is("tick -1", x.zoneFor(0, n("1"), -1), INVALID);
        Due.is("tick 3", x.zoneFor(0, n("1"), 3), INVALID);
        for (int name : NO_NAMES) {
            Due.is("name " + name, x.zoneFor(0, name, 0), INVALID);
        }
    }

    private static void promise20Source() {
        ViewedNames x = views();
        Due.is("the name", x.source(0, n("1"), 0, 0), n("1"));
        Due.is("a pattern", x.source(0, n("13"), 2, 0), n("14"));
        Due.is("no data", x.source(0, n("12"), 2, 0), NOT_FOUND);
        Due.is("no name", x.source(1, n("12"), 2, 0), NOT_FOUND);
        Due.is("no zone", x.source(1, n("2"), 2, 0), NOT_FOUND);
        x.set(1, n("14"), 1, n("11"));
        Due.is("too long", x.source(1, n("13"), 2, 2), NOT_FOUND);
        Due.is("asked for the alias", x.source(1, n("13"), 1, 2), n("14"));
        x.set(1, n("11"), 1, n("1"));
        Due.is("behind aliases", x.source(1, n("13"), 0, 2), n("1"));
        Due.is("earlier", x.source(1, n("13"), 0, 1), NOT_FOUND);
        Due.is("view -1", x.source(-1, n("1"), 0, 0), INVALID);
        Due.is("view 4", x.source(4, n("1"), 0, 0), INVALID);
        Due.is("type -1", x.source(0, n("1"), -1, 0), INVALID);
        Due.is("type 3", x.source(0, n("1"), 3, 0), INVALID);
        Due.is("tick -1", x.source(0, n("1"), 0, -1), INVALID);
        Due.is("tick 3", x.source(0, n("1"), 0, 3), INVALID);
        for (int name : NO_NAMES) {
            Due.is("name " + name, x.source(0, name, 0, 0), INVALID);
        }
    }

    private static void promise21And22Differences() {
        ViewedNames x = new ViewedNames();
        x.pass(1);
        x.addZone(1, n("1"));
        x.pass(1);
        x.set(0, n("14"), 2, 5);
        x.pass(1);
        x.set(0, n("12"), 0, 6);
        // The names at 1 are 1, 11 to 14 and 111 to 144.
        Due.is("a new zone", x.differences(1, 2, 0, 1), 21);
        Due.is("not for the common view", x.differences(0, 2, 0, 1), 0);
        Due.is("1 and 11 to 14", x.differences(1, 2, 1, 2), 5);
        Due.is("only 12", x.differences(1, 2, 3, 2), 1);
        Due.is("only 12 for addresses", x.differences(1, 0, 2, 3), 1);
        Due.is("one tick", x.differences(1, 2, 2, 2), 0);
        int[] want = {n("1"), n("11"), n("12"), n("13"), n("14")};
        for (int i = 0; i < want.length; i++) {
            Due.is("difference " + i, x.difference(1, 2, 1, 2, i), want[i]);
            Due.is("difference back " + i, x.difference(1, 2, 2, 1, i), want[i]);
        }
        Due.is("not so many", x.difference(1, 2, 1, 2, 5), NOT_FOUND);
        Due.is("the last one", x.difference(1, 2, 0, 1, 20), n("144"));
        Due.is("not nearly so many", x.difference(1, 2, 1, 2, Integer.MAX_VALUE), NOT_FOUND);
        Due.is("index -1", x.difference(1, 2, 1, 2, -1), INVALID);
        x.pass(1);
        x.addZone(1, n("443"));
        x.addZone(1, n("441"));
        x.pass(1);
        x.addZone(0, n("442"));
        Due.is("zones of three labels", x.differences(1, 0, 3, 5), 3);
        Due.is("the first one", x.difference(1, 0, 3, 5, 0), n("441"));
        Due.is("the last one", x.difference(1, 0, 3, 5, 2), n("443"));
        int[][] bad = {{-1, 0, 0, 0}, {4, 0, 0, 0}, {0, -1, 0, 0}, {0, 3, 0, 0}, {0, 0, -1, 0},
            {0, 0, 6, 0}, {0, 0, 0, -1}, {0, 0, 0, 6}};
        for (int[] a : bad) {
            Due.is("differences", x.differences(a[0], a[1], a[2], a[3]), INVALID);
            Due.is("difference", x.difference(a[0], a[1], a[2], a[3], 0), INVALID);
        }
    }

    private static void promise21And22AllNames() {
        ViewedNames x = new ViewedNames();
        x.pass(1);
        // No zone has the pattern 4 as its apex, so names at 4 need apexes of two labels.
        String[] apexes = {"1", "2", "3", "41", "42", "43"};
        for (String apex : apexes) {
            x.addZone(2, n(apex));
        }
        Due.is("all but 4, 44 and those below 44", x.differences(2, 0, 0, 1), 84 - 6);
        Due.is("the first one", x.difference(2, 0, 0, 1, 0), n("1"));
        Due.is("the last one", x.difference(2, 0, 0, 1, 77), n("344"));
        Due.is("no more", x.difference(2, 0, 0, 1, 78), NOT_FOUND);
        Due.is("split", x.split(2, 0, 0, 1), 84 - 6);
    }

    private static void promise23Split() {
        ViewedNames x = new ViewedNames();
        x.addZone(1, n("12"));
        x.set(0, n("12"), 0, 5);
        x.pass(1);
        x.addZone(2, n("12"));
        x.set(1, n("12"), 0, 5);
        x.set(1, n("121"), 0, 6);
        Due.is("a zone and none", x.split(0, 1, 0, 0), 5);
        Due.is("the other way", x.split(1, 0, 0, 0), 5);
        Due.is("at another tick", x.split(0, 2, 0, 0), 0);
        Due.is("only 121", x.split(1, 2, 0, 1), 1);
        Due.is("another type", x.split(1, 2, 2, 1), 1);
        Due.is("a view and itself", x.split(1, 1, 0, 1), 0);
        int[][] bad = {{-1, 0, 0, 0}, {4, 0, 0, 0}, {0, -1, 0, 0}, {0, 4, 0, 0}, {0, 0, -1, 0},
            {0, 0, 3, 0}, {0, 0, 0, -1}, {0, 0, 0, 2}};
        for (int[] a : bad) {
            Due.is("split", x.split(a[0], a[1], a[2], a[3]), INVALID);
        }
    }

    private static void promise24Since() {
        ViewedNames x = new ViewedNames();
        Due.is("never anything", x.since(0, n("1"), 0), 0);
        x.pass(10);
        Due.is("never anything", x.since(0, n("1"), 0), 0);
        x.addZone(0, n("1"));
        Due.is("a new zone", x.since(0, n("1"), 0), 10);
        x.pass(10);
        x.set(0, n("1"), 0, 5);
        Due.is("a new record", x.since(0, n("1"), 0), 20);
        Due.is("another name", x.since(0, n("11"), 0), 10);
        Due.is("another zone", x.since(0, n("2"), 0), 0);
        x.pass(10);
        x.set(0, n("1"), 0, 5);
        Due.is("the same value", x.since(0, n("1"), 0), 20);
        x.pass(10);
        x.set(0, n("1"), 0, 6);
        x.set(0, n("1"), 0, 5);
        Due.is("another value at no tick", x.since(0, n("1"), 0), 20);
        x.pass(10);
        x.set(0, n("1"), 0, 6);
        x.pass(1);
        x.set(0, n("1"), 0, 5);
        x.pass(10);
        Due.is("the same again", x.since(0, n("1"), 0), 51);
        x.removeZone(0);
        Due.is("removed", x.since(0, n("1"), 0), 61);
        x.pass(1);
        x.addZone(0, n("2"));
        Due.is("events elsewhere", x.since(0, n("1"), 0), 61);
        Due.is("another view", x.since(3, n("1"), 0), 61);
        Due.is("view -1", x.since(-1, n("1"), 0), INVALID);
        ViewedNames y = new ViewedNames();
        y.pass(1);
        y.addZone(0, n("1"));
        y.pass(1);
        Due.is("from tick 1", y.since(0, n("1"), 0), 1);
        Due.is("view 4", x.since(4, n("1"), 0), INVALID);
        Due.is("type -1", x.since(0, n("1"), -1), INVALID);
        Due.is("type 3", x.since(0, n("1"), 3), INVALID);
        for (int name : NO_NAMES) {
            Due.is("name " + name, x.since(0, name, 0), INVALID);
        }
    }

    private static void promise25SeenBy() {
        ViewedNames x = views();
        x.addNet(3, 240, 4);
        x.addZone(3, n("2"));
        Due.is("view 3", x.seenBy(n("2"), 0, NO_NAME, 2), 16);
        Due.is("view 1", x.seenBy(n("1"), 0, 20, 0), 64);
        Due.is("views 0 and 2", x.seenBy(n("1"), 0, 10, 0), 192);
        Due.is("no data for view 2", x.seenBy(n("12"), 0, NO_DATA, 1), 64);
        Due.is("no data for none", x.seenBy(n("12"), 0, NO_DATA, 2), 0);
        Due.is("view 0 then", x.seenBy(n("12"), 0, 13, 2), 192);
        Due.is("all", x.seenBy(n("3"), 0, NO_ZONE, 0), 256);
        Due.is("no answer", x.seenBy(n("3"), 0, -1, 0), 0);
        Due.is("no answer", x.seenBy(n("3"), 0, Integer.MIN_VALUE, 0), 0);
        Due.is("type -1", x.seenBy(n("1"), -1, 0, 0), INVALID);
        Due.is("type 3", x.seenBy(n("1"), 3, 0, 0), INVALID);
        Due.is("tick -1", x.seenBy(n("1"), 0, 0, -1), INVALID);
        Due.is("tick 3", x.seenBy(n("1"), 0, 0, 3), INVALID);
        for (int name : NO_NAMES) {
            Due.is("name " + name, x.seenBy(name, 0, 0, 0), INVALID);
        }
    }

    private static void promise26SetKeeping() {
        ViewedNames x = new ViewedNames();
        Due.is("-1", x.setKeeping(-1), INVALID);
        Due.is("101", x.setKeeping(101), INVALID);
        Due.is("initially", x.setKeeping(100), 3);
        Due.is("100", x.setKeeping(0), 100);
        Due.is("0", x.setKeeping(3), 0);
        x.ask(0, n("1"), 0);
        x.addZone(0, n("1"));
        x.pass(4);
        x.setKeeping(4);
        Due.is("old answers count again", x.ask(0, n("1"), 0), NO_ZONE);
        x.setKeeping(3);
        Due.is("and not any more", x.ask(0, n("1"), 0), NO_NAME);
    }

    private static void promise27Ask() {
        ViewedNames x = views();
        Due.is("found", x.ask(0, n("1"), 0), 20);
        x.removeNet(0);
        Due.is("kept", x.ask(0, n("1"), 0), 20);
        Due.is("another address", x.ask(1, n("1"), 0), 10);
        Due.is("another type", x.ask(0, n("1"), 2), NO_DATA);
        Due.is("another name", x.ask(0, n("11"), 0), NO_DATA);
        Due.is("hits", x.count(5), 1);
        x.pass(3);
        Due.is("3 ticks old", x.ask(0, n("1"), 0), 20);
        x.pass(1);
        Due.is("4 ticks old", x.ask(0, n("1"), 0), 10);
        Due.is("hits", x.count(5), 2);
        Due.is("kept", x.count(4), 4);
        Due.is("address -1", x.ask(-1, n("1"), 0), INVALID);
        Due.is("address 256", x.ask(256, n("1"), 0), INVALID);
        Due.is("type -1", x.ask(0, n("1"), -1), INVALID);
        Due.is("type 3", x.ask(0, n("1"), 3), INVALID);
        for (int name : NO_NAMES) {
            Due.is("name " + name, x.ask(0, name, 0), INVALID);
        }
        Due.is("errors are not kept", x.count(4), 4);
    }

    /** Asks for address a, and tells whether that was a hit. */
    private static boolean hits(ViewedNames x, int address) {
        int before = x.count(5);
        x.ask(address, n("1"), 0);
        return x.count(5) > before;
    }

    private static void promise27WhichIsReplaced() {
        ViewedNames x = new ViewedNames();
        x.setKeeping(1);
        hits(x, 0);
        hits(x, 1);
        x.pass(2);
        Due.holds("0 is too old", !hits(x, 0));
        for (int address = 2; address <= 5; address++) {
            Due.holds("new", !hits(x, address));
        }
        Due.is("full", x.count(4), 6);
        x.setKeeping(100);
        Due.holds("1 is still kept", hits(x, 1));
        Due.holds("6 replaces 1, which is the oldest", !hits(x, 6));
        Due.holds("0 was found anew", hits(x, 0));
        Due.holds("1 replaces 0, of one tick the first found", !hits(x, 1));
        Due.holds("0 replaces 2", !hits(x, 0));
        for (int address = 3; address <= 6; address++) {
            Due.holds("kept", hits(x, address));
        }
        Due.is("still full", x.count(4), 6);
        Due.holds("a hit makes nothing younger: 7 replaces 3", !hits(x, 7));
        Due.holds("3 replaces 4", !hits(x, 3));
        Due.holds("5 is kept", hits(x, 5));
    }

    private static void promise28Stale() {
        ViewedNames x = views();
        Due.is("none kept", x.stale(), 0);
        x.ask(0, n("1"), 0);
        x.ask(200, n("1"), 0);
        x.ask(201, n("1"), 0);
        Due.is("none stale", x.stale(), 0);
        x.set(0, n("1"), 0, 99);
        Due.is("two by a change", x.stale(), 2);
        x.removeNet(0);
        Due.is("one by its view", x.stale(), 3);
        x.pass(1);
        x.ask(5, n("3"), 0);
        x.addZone(0, n("3"));
        x.pass(2);
        Due.is("3 ticks old", x.stale(), 4);
        x.pass(1);
        Due.is("4 ticks old", x.stale(), 1);
        x.setKeeping(4);
        Due.is("with K of 4", x.stale(), 4);
        x.set(0, n("1"), 0, 10);
        Due.is("right again", x.stale(), 2);
    }

    private static void promise29Type() {
        ViewedNames x = new ViewedNames();
        Due.is("31", x.type(31), INVALID);
        Due.is("127", x.type(127), INVALID);
        Due.is("-1", x.type(-1), INVALID);
        for (int i = 1; i <= 60; i++) {
            Due.is("type", x.type(i % 2 == 0 ? 32 : 126), i);
        }
        Due.is("the 61st", x.type('1'), LIMIT);
        Due.is("the 61st, wrong", x.type(31), INVALID);
        Due.is("the length", x.clearText(), 60);
    }

    private static void promise30ClearText() {
        ViewedNames x = new ViewedNames();
        x.type('x');
        x.type('y');
        Due.is("two", x.clearText(), 2);
        Due.is("empty", x.clearText(), 0);
        Due.is("no fault", x.fault(), NOT_FOUND);
        Due.is("anew", x.type('1'), 1);
    }

    private static void promise31Fault() {
        faultIs("", NOT_FOUND);
        faultIs("1:0=0;", NOT_FOUND);
        faultIs("444:1=444;123:2=999;4:0=255;", NOT_FOUND);
        faultIs("1:0=000;1:2=000;1:2=09;1:0=025;", NOT_FOUND);
        faultIs("1:0-;1:1-;1:2-;1:0-;1:1-;1:2-;1:0-;1:1-;1:2-;1:0-;1:1-;1:2-;", NOT_FOUND);
        faultIs("1:0-;1:1-;1:2-;1:0-;1:1-;1:2-;1:0-;1:1-;1:2-;1:0-;1:1-;1:2-", 55);
        String[] wrong = {"1", "1:", "1:0", "1:0=", "1:0=1", "1:0-", ";", " ", "x", ":0=1;",
            "0:0=1;", "5:0=1;", "15:0=1;", "1111:0=1;", "10:0=1;", "1;0=1;", "1:3=1;", "1:=1;",
            "1:00=1;", "1:0+1;", "1:0=;", "1:0=256;", "1:0=999;", "1:0=0001;", "1:2=1000;",
            "1:2=0000;", "1:2=-1;", "1:1=0;", "1:1=5;", "1:1=10;", "1:1=1111;", "1:1=;",
            "1:1=150;", "1:0-1;", "1:0--;", "1:0=1 ;", " 1:0=1;", "1 :0=1;", "1:0=1,", "1:/=1;",
            "1:0=1:;", "1:0=/;", "1:0=:;"};
        for (String change : wrong) {
            faultIs(change, 0);
            if (change.endsWith(";")) {
                faultIs(change + "1:0=1;", 0);
            }
            faultIs("12:1=3;" + change, 7);
            faultIs("1:0-;12:2=345;" + change + "x;", 14);
        }
    }

    public static void main(String[] args) {
        promise01NewObject();
        promise02Pass();
        promise03Time();
        promise04AddNet();
        promise05RemoveNet();
        promise06ViewOf();
        promise07AddZone();
        promise08RemoveZone();
        promise09ZoneInfo();
        promise10Count();
        promise11Set();
        promise12Clear();
        promise13Record();
        promise14Serial();
        promise15Change();
        promise16Lay();
        promise16LayAtTheLimit();
        promise17Answer();
        promise18ViewAnswer();
        promise18Apexes();
        promise18Aliases();
        promise19ZoneFor();
        promise20Source();
        promise21And22Differences();
        promise21And22AllNames();
        promise23Split();
        promise24Since();
        promise25SeenBy();
        promise26SetKeeping();
        promise27Ask();
        promise27WhichIsReplaced();
        promise28Stale();
        promise29Type();
        promise30ClearText();
        promise31Fault();
        Due.end();
    }
}

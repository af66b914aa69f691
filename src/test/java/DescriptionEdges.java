import java.util.List;
import java.util.regex.Matcher;
import java.util.regex.Pattern;

/** The sentences of the head "Description", but for kept answers and texts. */
final class DescriptionEdges extends Setting {
    private DescriptionEdges() {
    }

    static void check() {
        Document.head("Description");
        names();
        namesAtOthers();
        ticks();
        addresses();
        netsInTime();
        viewOfAddress();
        zones();
        records();
        changes();
        existence();
        zoneOfAnswer();
        patterns();
        aliases();
        errors();
        constants();
    }

    private static void names() {
        Document.says("A name consists of 1 to 3 labels, each a number from 1 to 4.");
        List<String> names = allNames();
        Due.is("names", names.size(), 84);
        for (int first = 0; first <= 5; first++) {
            for (int second = 0; second <= 5; second++) {
                for (int third = 0; third <= 5; third++) {
                    String labels = ("" + first + second + third).replaceAll("0+$", "");
                    // The label 5 gives the number of another name, or of none.
                    if (!labels.contains("5")) {
                        boolean isName = labels.matches("[1-4]{1,3}");
                        Due.is("labels " + labels, new ViewedNames().viewAnswer(0, n(labels), 0, 0),
                                isName ? NO_ZONE : INVALID);
                    }
                }
            }
        }

        Document.says("It is written as a number: first label + 5 * second label + 25 * third "
                + "label, with 0 for labels that are missing; so names are certain numbers from 1 "
                + "to 124.");
        for (int number = -130; number <= 380; number++) {
            int first = number % 5;
            int second = number / 5 % 5;
            int third = number / 25;
            boolean isName = number >= 1 && number <= 124 && first != 0
                    && (second != 0 || third == 0);
            Due.is("number " + number, new ViewedNames().viewAnswer(0, number, 0, 0),
                    isName ? NO_ZONE : INVALID);
        }
        ViewedNames x = fresh("addZone 0 1 = 0", "set 0 1 0 7 = 1", "set 0 121 0 8 = 2");
        Due.is("the lowest name", x.viewAnswer(0, 1, 0, 0), 7);
        Due.is("1, 4, 4", x.viewAnswer(0, 1 + 5 * 4 + 25 * 4, 0, 0), 8);
        Due.is("the highest name", x.viewAnswer(0, 124, 0, 0), NO_ZONE);
    }

    private static void namesAtOthers() {
        Document.says("A name is below another one if it has more labels and begins with all "
                + "labels of the other one, in their order; it is at another one if it is the same "
                + "or below it.");
        for (String apex : allApexes()) {
            ViewedNames x = fresh("addZone 0 ." + apex + " = 0");
            int records = 0;
            for (String name : allNames()) {
                boolean isAt = name.startsWith(apex);
                records += isAt ? 1 : 0;
                Due.is(name + " at " + apex, x.zoneFor(0, n(name), 0), isAt ? 0 : NOT_FOUND);
                Due.is("set " + name + " at " + apex, x.set(0, n(name), 0, 1),
                        isAt ? records : INVALID);
            }
        }

        Document.says("A name whose last label is 4 is a pattern.");
        for (String name : allNames()) {
            Due.is("apex " + name, new ViewedNames().addZone(0, n(name)),
                    name.endsWith("4") ? INVALID : 0);
        }
        fresh("addZone 0 .1 = 0", "set 0 .14 0 5 = 1", "set 0 .134 0 6 = 2",
                "viewAnswer 0 .11 0 0 = 5", "viewAnswer 0 .131 0 0 = 6",
                "viewAnswer 0 .141 0 0 = -12");
    }

    private static void ticks() {
        Document.says("The present tick T is initially 0 and only grows, up to 9999.");
        ViewedNames x = fresh("time = 0", "viewOf 0 0 = 0", "viewOf 0 1 = -1");
        passTo(x, 9998);
        run(x, "pass 2 = -3", "time = 9998", "viewOf 0 9998 = 0", "viewOf 0 9999 = -1",
                "pass 1 = 9999", "pass 1 = -3", "time = 9999", "viewOf 0 9999 = 0",
                "viewOf 0 10000 = -1");

        Document.says("All that is said about a tick t, 0 to T, means what was there after all "
                + "calls that were made while the present tick was t or earlier.");
        ViewedNames y = fresh("addZone 0 .1 = 0", "set 0 .1 0 1 = 1", "set 0 .1 0 2 = 1",
                "viewAnswer 0 .1 0 0 = 2", "set 0 .1 0 3 = 1", "viewAnswer 0 .1 0 0 = 3",
                "pass 5 = 5", "viewAnswer 0 .1 0 5 = 3", "set 0 .1 0 4 = 1",
                "clear 0 .1 0 = 4", "viewAnswer 0 .1 0 5 = -12", "set 0 .1 0 5 = 1",
                "pass 1 = 6", "removeZone 0 = 1", "addZone 0 .1 = 1", "set 1 .1 0 6 = 1");
        int[] want = {3, 3, 3, 3, 3, 5, 6};
        for (int tick = 0; tick < want.length; tick++) {
            Due.is("at " + tick, y.viewAnswer(0, n("1"), 0, tick), want[tick]);
        }
        run(y, "viewAnswer 0 .1 0 -1 = -1", "viewAnswer 0 .1 0 7 = -1");
    }

    private static void addresses() {
        Document.says("There are the views 0 to 3; view 0 is the common one.");
        ViewedNames x = fresh("addZone 0 .1 = 0", "addZone 3 .2 = 1", "addZone 4 .1 = -1",
                "addZone -1 .1 = -1", "zoneFor 3 .2 0 = 1", "zoneFor 4 .1 0 = -1",
                "zoneFor -1 .1 0 = -1");
        for (int view = 0; view <= 3; view++) {
            Due.is("the common zone", x.zoneFor(view, n("1"), 0), 0);
            Due.is("the zone of view 3", x.zoneFor(view, n("2"), 0), view == 3 ? 1 : NOT_FOUND);
        }

        Document.says("An address is a number from 0 to 255.");
        fresh("viewOf -1 0 = -1", "viewOf 0 0 = 0", "viewOf 255 0 = 0", "viewOf 256 0 = -1",
                "answer -1 .1 0 0 = -1", "answer 0 .1 0 0 = -11", "answer 255 .1 0 0 = -11",
                "answer 256 .1 0 0 = -1", "ask -1 .1 0 = -1", "ask 0 .1 0 = -11",
                "ask 255 .1 0 = -11", "ask 256 .1 0 = -1", "seenBy .1 0 -11 0 = 256");

        Document.says("A net has a view (1 to 3), a base (0 to 255) and a length (1 to 8): it "
                + "contains all addresses whose first so many bits, of 8, are those of the base.");
        fresh("addNet 0 0 1 = -1", "addNet 4 0 1 = -1", "addNet 1 -1 1 = -1",
                "addNet 1 256 1 = -1", "addNet 1 0 0 = -1", "addNet 1 0 9 = -1",
                "addNet 1 0 1 = 0", "addNet 3 255 8 = 1");
        for (int length = 1; length <= 8; length++) {
            for (int base = 0; base <= 255; base++) {
                containsItsAddresses(base, length);
            }
        }
    }

    private static void containsItsAddresses(int base, int length) {
        ViewedNames x = new ViewedNames();
        x.addNet(2, base, length);
        String bits = Integer.toBinaryString(256 + base).substring(1, 1 + length);
        for (int address = 0; address <= 255; address++) {
            boolean isIn = Integer.toBinaryString(256 + address).substring(1).startsWith(bits);
            Due.is(address + " in " + base + "/" + length, x.viewOf(address, 0), isIn ? 2 : 0);
        }
    }

    private static void netsInTime() {
        Document.says("At most 10 nets can ever be made; they are numbered from 0 in this order.");
        ViewedNames x = new ViewedNames();
        for (int i = 0; i < 10; i++) {
            Due.is("net " + i, x.addNet(1 + i % 3, 0, 1), i);
            Due.is("a refused one has no number", x.addNet(0, 0, 1), INVALID);
            if (i % 2 == 0) {
                Due.is("removed " + i, x.removeNet(i), 1 + i % 3);
            }
        }
        run(x, "addNet 1 0 1 = -3", "count 0 = 5", "removeNet 9 = 1", "addNet 1 0 1 = -3",
                "removeNet 10 = -1");

        Document.says("A net is there from the tick at which it is made until it is removed (at "
                + "the tick of its removal it is not there any more; if that is the tick at which "
                + "it was made, it was there at no tick).");
        ViewedNames y = fresh("pass 2 = 2", "addNet 1 0 1 = 0", "viewOf 0 2 = 1", "pass 3 = 5",
                "viewOf 0 5 = 1", "count 0 = 1", "removeNet 0 = 1", "count 0 = 0", "pass 1 = 6",
                "addNet 2 0 1 = 1", "viewOf 0 6 = 2", "removeNet 1 = 2", "pass 1 = 7",
                "addNet 3 0 1 = 2", "removeNet 2 = 3", "addNet 2 0 1 = 3", "pass 1 = 8");
        int[] want = {0, 0, 1, 1, 1, 0, 0, 2, 2};
        for (int tick = 0; tick < want.length; tick++) {
            Due.is("at " + tick, y.viewOf(127, tick), want[tick]);
        }
        ViewedNames z = new ViewedNames();
        passTo(z, 9999);
        run(z, "addNet 1 0 1 = 0", "viewOf 0 9999 = 1", "viewOf 0 9998 = 0", "removeNet 0 = 1",
                "viewOf 0 9999 = 0", "count 0 = 0");
    }

    private static void viewOfAddress() {
        Document.says("The view of an address at a tick is that of the longest net that is there "
                + "and contains it, of several the one with the lowest number; view 0 if there is "
                + "none.");
        for (int one = 1; one <= 8; one++) {
            for (int other = 1; other <= 8; other++) {
                ViewedNames x = new ViewedNames();
                x.addNet(1, 0, one);
                x.addNet(2, 0, other);
                Due.is("lengths " + one + " and " + other, x.viewOf(0, 0), other > one ? 2 : 1);
                x.pass(1);
                x.removeNet(other > one ? 1 : 0);
                Due.is("without the longer one", x.viewOf(0, 1), other > one ? 1 : 2);
                Due.is("none", x.viewOf(255, 1), 0);
                x.removeNet(other > one ? 0 : 1);
                Due.is("none any more", x.viewOf(0, 1), 0);
                Due.is("earlier", x.viewOf(0, 0), other > one ? 2 : 1);
            }
        }
        fresh("addNet 3 0 1 = 0", "addNet 1 129 8 = 1", "addNet 2 128 7 = 2", "addNet 3 128 8 = 3",
                "viewOf 127 0 = 3", "viewOf 128 0 = 3", "viewOf 129 0 = 1", "viewOf 130 0 = 0",
                "removeNet 3 = 3", "viewOf 128 0 = 2");
    }

    private static void zones() {
        Document.says("At most 10 zones can ever be made; they are numbered from 0 in this order.");
        ViewedNames x = new ViewedNames();
        for (int i = 0; i < 10; i++) {
            Due.is("zone " + i, x.addZone(i % 2, n("12")), i);
            Due.is("a refused one has no number", x.addZone(i % 2, n("12")), NOT_POSSIBLE);
            if (i < 8) {
                Due.is("removed " + i, x.removeZone(i), 0);
            }
        }
        run(x, "addZone 2 .1 = -3", "count 1 = 2", "removeZone 9 = 0", "addZone 1 .12 = -3",
                "zoneInfo 9 1 = 11", "zoneInfo 10 1 = -1");

        Document.says("A zone has a view and an apex, which is a name; it is there from the tick "
                + "at which it is made until it is removed, like a net.");
        ViewedNames y = fresh("addZone 0 0 = -1", "addZone 0 25 = -1", "addZone 0 125 = -1",
                "pass 2 = 2", "addZone 0 .3 = 0", "pass 3 = 5", "removeZone 0 = 0", "pass 1 = 6",
                "addZone 0 .3 = 1", "removeZone 1 = 0", "pass 1 = 7", "addZone 0 .3 = 2",
                "removeZone 2 = 0", "addZone 0 .3 = 3", "pass 1 = 8");
        int[] want = {NOT_FOUND, NOT_FOUND, 0, 0, 0, NOT_FOUND, NOT_FOUND, 3, 3};
        for (int tick = 0; tick < want.length; tick++) {
            Due.is("at " + tick, y.zoneFor(0, n("3"), tick), want[tick]);
        }
        ViewedNames z = new ViewedNames();
        passTo(z, 9999);
        run(z, "addZone 0 .3 = 0", "zoneFor 0 .3 9999 = 0", "zoneFor 0 .3 9998 = -4",
                "zoneInfo 0 3 = -4", "removeZone 0 = 0", "zoneFor 0 .3 9999 = -4",
                "zoneInfo 0 3 = 9999", "count 1 = 0");

        Document.says("No two zones that are there at the same time have the same view and the "
                + "same apex.");
        fresh("addZone 1 .12 = 0", "addZone 1 .12 = -2", "addZone 2 .12 = 1", "addZone 0 .12 = 2",
                "addZone 1 .1 = 3", "addZone 1 .121 = 4", "addZone 1 .21 = 5", "pass 1 = 1",
                "addZone 1 .12 = -2", "removeZone 0 = 0", "addZone 1 .12 = 6",
                "addZone 1 .12 = -2", "removeZone 6 = 0", "addZone 1 .12 = 7");
    }

    private static void records() {
        Document.says("A record of a zone has a name at the apex, a type (0 address, 1 alias, 2 "
                + "number) and a value: 0 to 255 for an address, a name for an alias, 0 to 999 for "
                + "a number.");
        ViewedNames x = fresh("addZone 0 .12 = 0", "set 0 .1 0 0 = -1", "set 0 .13 0 0 = -1",
                "set 0 .21 0 0 = -1", "set 0 .12 -1 1 = -1", "set 0 .12 3 1 = -1",
                "set 0 .12 0 -1 = -1", "set 0 .12 0 256 = -1", "set 0 .12 1 0 = -1",
                "set 0 .12 1 125 = -1", "set 0 .12 2 -1 = -1", "set 0 .12 2 1000 = -1",
                "count 3 = 0");
        int[][] values = {{0, 0}, {0, 255}, {1, 1}, {1, 124}, {2, 0}, {2, 999}};
        for (int[] v : values) {
            x.set(0, n("124"), v[0], v[1]);
            Due.is("value " + v[1] + " of type " + v[0], x.record(0, n("124"), v[0], 0), v[1]);
        }
        for (int value = -2; value <= 1002; value++) {
            Due.holds("address " + value, takes(0, value) == (value >= 0 && value <= 255));
            Due.holds("alias " + value, takes(1, value) == (labels(value) != null));
            Due.holds("number " + value, takes(2, value) == (value >= 0 && value <= 999));
        }

        Document.says("A zone has at most one record for each name and type at a time.");
        fresh("addZone 0 .1 = 0", "addZone 1 .1 = 1", "set 0 .1 0 1 = 1", "set 0 .1 0 2 = 1",
                "set 0 .1 1 3 = 2", "set 0 .1 2 4 = 3", "set 0 .11 0 5 = 4", "set 0 .11 0 5 = 4",
                "set 1 .1 0 6 = 1", "record 0 .1 0 0 = 2", "pass 1 = 1", "set 0 .1 0 7 = 4",
                "record 0 .1 0 0 = 2", "record 0 .1 0 1 = 7", "clear 0 .1 0 = 7",
                "clear 0 .1 0 = -4", "record 0 .1 0 1 = -4", "count 2 = 4");
    }

    private static boolean takes(int type, int value) {
        ViewedNames x = new ViewedNames();
        x.addZone(0, n("1"));
        return x.set(0, n("1"), type, value) == 1;
    }

    private static void changes() {
        Document.says("A change sets or removes a record of a zone that is there; at most 70 "
                + "changes can be made in all.");
        ViewedNames x = fresh("addZone 0 .1 = 0", "addZone 1 .1 = 1", "addZone 0 .2 = 2",
                "set 2 .2 0 1 = 1", "removeZone 2 = 1", "set 2 .2 0 2 = -2", "clear 2 .2 0 = -2");
        for (int i = 1; i < 69; i++) {
            Due.is("changes", x.count(3), i);
            if (i % 3 == 0) {
                Due.is("clear", x.clear((i - 1) % 2, n("1"), 0), i - 1);
                Due.is("no change", x.clear((i - 1) % 2, n("1"), 0), NOT_FOUND);
            } else {
                Due.is("set", x.set(i % 2, n("1"), 0, i), 1);
            }
        }
        run(x, "count 3 = 69", "set 0 .11 2 69 = 2", "count 3 = 70", "set 0 .11 2 70 = -3",
                "set 1 .1 0 70 = -3", "clear 0 .11 2 = -3", "count 3 = 70",
                "record 0 .11 2 0 = 69");
    }

    private static void existence() {
        Document.says("A name has a type in a zone if there is such a record; it exists in the "
                + "zone if it, or a name below it, has some type there.");
        for (int type = 0; type <= 2; type++) {
            ViewedNames x = fresh("addZone 0 .1 = 0", "viewAnswer 0 .1 0 0 = -12");
            x.set(0, n("123"), type, 1);
            int other = type == 0 ? 2 : 0;
            Due.is("it", x.viewAnswer(0, n("123"), type, 0), 1);
            Due.is("one above", x.viewAnswer(0, n("12"), other, 0), NO_DATA);
            Due.is("two above", x.viewAnswer(0, n("1"), other, 0), NO_DATA);
            Due.is("it, of another type", x.viewAnswer(0, n("123"), other, 0), NO_DATA);
            run(x, "viewAnswer 0 .13 0 0 = -12", "viewAnswer 0 .122 0 0 = -12",
                    "viewAnswer 0 .132 0 0 = -12", "pass 1 = 1");
            x.clear(0, n("123"), type);
            run(x, "viewAnswer 0 .123 0 1 = -12", "viewAnswer 0 .12 0 1 = -12",
                    "viewAnswer 0 .1 0 1 = -12", "viewAnswer 0 .12 0 0 = -13");
        }
        // Not by a name above it, and not by a record of another zone.
        fresh("addZone 0 .1 = 0", "addZone 1 .1 = 1", "set 0 .1 0 5 = 1", "set 0 .12 0 5 = 2",
                "viewAnswer 0 .11 0 0 = -12", "viewAnswer 0 .121 0 0 = -12",
                "viewAnswer 1 .1 0 0 = -12", "viewAnswer 1 .12 0 0 = -12");
    }

    private static void zoneOfAnswer() {
        Document.says("The answer to a question for a view v, a name, and a type, at a tick, is "
                + "found like this: The zone is the one with the longest apex (with most labels) "
                + "of all zones of the views v and 0 that are there and at whose apex the name is; "
                + "of two with the same apex that of view v.");
        String[] apexes = {"1", "12", "123"};
        for (int one = 0; one < 6; one++) {
            for (int other = 0; other < 6; other++) {
                if (one != other) {
                    oneOfTwoZones(one % 2, apexes[one / 2], other % 2, apexes[other / 2]);
                }
            }
        }
        // Zones of other views are never seen, nor those that are not there.
        fresh("addZone 0 .1 = 0", "addZone 2 .12 = 1", "addZone 1 .123 = 2", "set 0 .123 0 1 = 1",
                "set 1 .123 0 2 = 1", "set 2 .123 0 3 = 1", "viewAnswer 0 .123 0 0 = 1",
                "viewAnswer 1 .123 0 0 = 3", "viewAnswer 2 .123 0 0 = 2",
                "viewAnswer 3 .123 0 0 = 1", "viewAnswer 2 .12 0 0 = -13", "pass 1 = 1",
                "removeZone 1 = 1", "viewAnswer 2 .123 0 1 = 1", "viewAnswer 2 .123 0 0 = 2");

        Document.says("If there is none, the answer is NO_ZONE.");
        fresh("viewAnswer 0 .1 0 0 = -11", "addZone 1 .12 = 0", "set 0 .12 0 1 = 1",
                "viewAnswer 1 .1 0 0 = -11", "viewAnswer 1 .13 0 0 = -11",
                "viewAnswer 1 .14 0 0 = -11", "viewAnswer 0 .12 0 0 = -11", "pass 1 = 1",
                "removeZone 0 = 1", "viewAnswer 1 .12 0 1 = -11", "viewAnswer 1 .12 0 0 = 1");
    }

    /** Two zones, of the views 0 and 2 or both of one, in both orders of making. */
    private static void oneOfTwoZones(int one, String apex, int other, String otherApex) {
        ViewedNames x = new ViewedNames();
        x.addZone(2 * one, n(apex));
        x.addZone(2 * other, n(otherApex));
        x.set(0, n("123"), 0, 10);
        x.set(1, n("123"), 0, 11);
        int length = apex.length() - otherApex.length();
        int want = length > 0 || length == 0 && one == 1 ? 10 : 11;
        String told = apex + " of " + 2 * one + ", " + otherApex + " of " + 2 * other;
        Due.is(told, x.viewAnswer(2, n("123"), 0, 0), want);
        int common = one == 0 && (other == 1 || length > 0) ? 10 : other == 0 ? 11 : NO_ZONE;
        Due.is(told + ", seen from 0", x.viewAnswer(0, n("123"), 0, 0), common);
        Due.is(told + ", seen from 3", x.viewAnswer(3, n("123"), 0, 0), common);
    }

    private static void patterns() {
        Document.says("If the name does not exist in the zone: if it is a pattern, the answer is "
                + "NO_NAME;");
        fresh("addZone 0 .1 = 0", "set 0 .11 0 1 = 1", "set 0 .144 0 2 = 2",
                "viewAnswer 0 .114 0 0 = -12", "viewAnswer 0 .124 0 0 = -12",
                "viewAnswer 0 .14 0 0 = -13", "clear 0 .144 0 = 2", "viewAnswer 0 .14 0 0 = -12");

        Document.says("otherwise its last label is replaced by 4, and if the result is not below "
                + "the apex, or does not exist in the zone, the answer is NO_NAME.");
        // The apex itself would be replaced by a name outside the zone: 4, 14, 124.
        fresh("addZone 0 .1 = 0", "addZone 1 .12 = 1", "addZone 2 .123 = 2", "set 0 .14 0 1 = 1",
                "set 0 .124 0 2 = 2", "set 0 .134 0 3 = 3", "viewAnswer 0 .1 0 0 = -13",
                "viewAnswer 1 .12 0 0 = -12", "viewAnswer 2 .123 0 0 = -12",
                "viewAnswer 1 .121 0 0 = -12", "viewAnswer 0 .11 0 0 = 1",
                "viewAnswer 0 .123 0 0 = 2", "viewAnswer 0 .13 0 0 = -13",
                "viewAnswer 0 .131 0 0 = 3", "viewAnswer 0 .111 0 0 = -12",
                "viewAnswer 0 .141 0 0 = -12", "clear 0 .14 0 = 1", "viewAnswer 0 .11 0 0 = -12");
        fresh("addZone 0 .41 = 0", "set 0 .414 0 1 = 1", "viewAnswer 0 .412 0 0 = 1",
                "viewAnswer 0 .41 0 0 = -13", "clear 0 .414 0 = 1", "viewAnswer 0 .41 0 0 = -12");

        Document.says("If the name (now perhaps the replaced one) has the type, the answer is the "
                + "value of this record.");
        // A name that exists is not replaced, even if it has not the type and the pattern has.
        fresh("addZone 0 .1 = 0", "set 0 .14 0 255 = 1", "set 0 .14 2 0 = 2", "set 0 .12 2 999 = 3",
                "set 0 .131 2 7 = 4", "viewAnswer 0 .11 0 0 = 255", "viewAnswer 0 .11 2 0 = 0",
                "viewAnswer 0 .14 0 0 = 255", "viewAnswer 0 .12 2 0 = 999",
                "viewAnswer 0 .12 0 0 = -13", "viewAnswer 0 .13 0 0 = -13",
                "viewAnswer 0 .13 2 0 = -13", "source 0 .11 0 0 = 21");
    }

    private static void aliases() {
        Document.says("Otherwise, if the name has the type 1 (alias), the answer is that for the "
                + "name to which it leads;");
        // For the same view and tick, whatever zone the alias stands in.
        fresh("addZone 0 .1 = 0", "addZone 2 .2 = 1", "set 0 .1 1 .22 = 1", "set 0 .14 1 .1 = 2",
                "set 1 .22 0 9 = 1", "viewAnswer 2 .1 0 0 = 9", "viewAnswer 0 .1 0 0 = -11",
                "viewAnswer 2 .11 0 0 = 9", "viewAnswer 2 .1 2 0 = -13",
                "viewAnswer 2 .1 1 0 = .22", "pass 1 = 1", "set 1 .22 0 8 = 1",
                "set 0 .1 0 5 = 3", "viewAnswer 2 .1 0 0 = 9", "viewAnswer 2 .1 0 1 = 5",
                "viewAnswer 2 .11 0 1 = 5", "clear 1 .22 0 = 8", "viewAnswer 2 .1 2 1 = -12");

        Document.says("but the fifth alias in one question is not followed, and the answer is "
                + "TOO_LONG.");
        for (int aliases = 0; aliases <= 8; aliases++) {
            chainOf(aliases);
        }
        fresh("addZone 0 .1 = 0", "set 0 .1 1 .1 = 1", "viewAnswer 0 .1 0 0 = -14",
                "viewAnswer 0 .1 1 0 = 1", "set 0 .11 1 .12 = 2", "set 0 .12 1 .11 = 3",
                "viewAnswer 0 .11 2 0 = -14", "source 0 .11 2 0 = -4");

        Document.says("Otherwise the answer is NO_DATA.");
        fresh("addZone 0 .1 = 0", "set 0 .11 0 1 = 1", "viewAnswer 0 .11 1 0 = -13",
                "viewAnswer 0 .11 2 0 = -13", "viewAnswer 0 .1 0 0 = -13",
                "viewAnswer 0 .1 1 0 = -13", "set 0 .14 2 1 = 2", "viewAnswer 0 .13 1 0 = -13",
                "viewAnswer 0 .13 0 0 = -13");
    }

    /** A chain from 111 over 112, 113, 121 .. to an end of each kind, some by patterns. */
    private static void chainOf(int aliases) {
        String[] names = {"111", "112", "113", "121", "122", "123", "131", "132", "133"};
        ViewedNames x = fresh("addZone 0 .1 = 0");
        for (int i = 0; i < aliases; i++) {
            x.set(0, n(names[i]), 1, n(names[i + 1]));
        }
        x.set(0, n(names[aliases]), 0, 77);
        boolean isTooLong = aliases >= 5;
        Due.is(aliases + " aliases", x.viewAnswer(0, n("111"), 0, 0), isTooLong ? TOO_LONG : 77);
        Due.is("source behind " + aliases, x.source(0, n("111"), 0, 0),
                isTooLong ? NOT_FOUND : n(names[aliases]));
        Due.is("no data behind " + aliases, x.viewAnswer(0, n("111"), 2, 0),
                isTooLong ? TOO_LONG : NO_DATA);
        if (aliases > 0) {
            x.set(0, n(names[aliases - 1]), 1, n("2"));
            Due.is("no zone behind " + aliases, x.viewAnswer(0, n("111"), 0, 0),
                    isTooLong ? TOO_LONG : NO_ZONE);
            x.set(0, n(names[aliases - 1]), 1, n("144"));
            Due.is("no name behind " + aliases, x.viewAnswer(0, n("111"), 0, 0),
                    isTooLong ? TOO_LONG : NO_NAME);
            x.set(0, n(names[aliases - 1]), 1, n("141"));
            x.set(0, n("144"), 0, 88);
            Due.is("a pattern behind " + aliases, x.viewAnswer(0, n("111"), 0, 0),
                    isTooLong ? TOO_LONG : 88);
        }
    }

    private static void errors() {
        Document.says("If several errors apply to a call, INVALID_ARGUMENT is returned rather than "
                + "NOT_POSSIBLE,");
        Refused.invalidRatherThanNotPossible();
        Document.says("NOT_POSSIBLE rather than LIMIT_REACHED,");
        Refused.notPossibleRatherThanLimit();
        Document.says("and LIMIT_REACHED rather than NOT_FOUND.");
        Refused.limitRatherThanNotFound();
        Document.says("A call that returns an error changes nothing.");
        Refused.changeNothing();

        Document.says("A net or a zone with a certain number that was never made is "
                + "INVALID_ARGUMENT;");
        String[] ofZones = {"removeZone %d", "zoneInfo %d 0", "zoneInfo %d 3", "set %d .1 0 1",
            "clear %d .1 0", "record %d .1 0 0", "serial %d 0", "change %d 0 0", "lay %d"};
        for (int zone : new int[] {Integer.MIN_VALUE, -1, 1, 9, 10, Integer.MAX_VALUE}) {
            for (String words : ofZones) {
                ViewedNames x = fresh("addZone 0 .1 = 0", "addNet 1 0 1 = 0", "addNet 1 0 1 = 1");
                Due.is(words + " " + zone, call(x, String.format(words, zone)), INVALID);
            }
        }
        for (int net : new int[] {Integer.MIN_VALUE, -1, 1, 9, 10, Integer.MAX_VALUE}) {
            ViewedNames x = fresh("addNet 1 0 1 = 0", "addZone 0 .1 = 0", "addZone 0 .2 = 1");
            Due.is("removeNet " + net, x.removeNet(net), INVALID);
        }

        Document.says("so is a number that is no name.");
        String[] ofNames = {"addZone 0 %d", "set 0 %d 0 1", "set 0 .1 1 %d", "clear 0 %d 0",
            "record 0 %d 0 0", "answer 0 %d 0 0", "viewAnswer 0 %d 0 0", "zoneFor 0 %d 0",
            "source 0 %d 0 0", "since 0 %d 0", "seenBy %d 0 0 0", "ask 0 %d 0"};
        for (int number : new int[] {Integer.MIN_VALUE, -124, -1, 0, 5, 20, 25, 26, 29, 30, 50, 51,
            54, 75, 76, 100, 101, 104, 105, 120, 125, 126, 256 + 1, Integer.MAX_VALUE}) {
            for (String words : ofNames) {
                ViewedNames x = fresh("addZone 0 .1 = 0");
                Due.is(words + " " + number, call(x, String.format(words, number)), INVALID);
            }
        }
    }

    private static void constants() {
        String[] told = {"`INVALID_ARGUMENT = -1`: An argument is out of its range.",
            "`NOT_POSSIBLE = -2`: The call is not possible in the present state.",
            "`LIMIT_REACHED = -3`: A fixed limit has been reached.",
            "`NOT_FOUND = -4`: There is no such element.",
            "`NO_ZONE = -11, NO_NAME = -12, NO_DATA = -13, TOO_LONG = -14`: Answers that are no "
            + "values."};
        Pattern constant = Pattern.compile("([A-Z_]+) = (-\\d+)");
        for (String line : told) {
            Document.says(line);
            for (Matcher m = constant.matcher(line); m.find();) {
                Due.is(m.group(1), constantOf(m.group(1)), Integer.parseInt(m.group(2)));
            }
        }
    }

    private static int constantOf(String name) {
        switch (name) {
            case "INVALID_ARGUMENT": return ViewedNames.INVALID_ARGUMENT;
            case "NOT_POSSIBLE": return ViewedNames.NOT_POSSIBLE;
            case "LIMIT_REACHED": return ViewedNames.LIMIT_REACHED;
            case "NOT_FOUND": return ViewedNames.NOT_FOUND;
            case "NO_ZONE": return ViewedNames.NO_ZONE;
            case "NO_NAME": return ViewedNames.NO_NAME;
            case "NO_DATA": return ViewedNames.NO_DATA;
            case "TOO_LONG": return ViewedNames.TOO_LONG;
            default: return 0;
        }
    }
}

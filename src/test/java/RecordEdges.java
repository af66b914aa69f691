/** The sentences of the promises 11 to 16: records. */
final class RecordEdges extends Setting {
    private RecordEdges() {
    }

    static void check() {
        set();
        clear();
        record();
        serial();
        change();
        lay();
        layRefused();
    }

    private static void set() {
        Document.promise(11);
        Document.says("Sets a record. This is a change.");
        fresh("addZone 0 .1 = 0", "set 0 .1 0 5 = 1", "record 0 .1 0 0 = 5", "count 3 = 1",
                "set 0 .1 0 5 = 1", "count 3 = 2", "serial 0 0 = 2", "set 0 .1 0 6 = 1",
                "record 0 .1 0 0 = 6", "change 0 2 3 = 6", "set 0 .1 0 256 = -1", "count 3 = 3");
        Document.says("`zone`: number of the zone");
        Ranges.argument("set", 0);
        ViewedNames x = new ViewedNames();
        for (int i = 0; i < 10; i++) {
            x.addZone(i % 4, n(allApexes().get(i)));
        }
        Due.is("the last zone", x.set(9, n(allApexes().get(9)), 0, 1), 1);
        run(x, "set 10 .1 0 1 = -1", "set -1 .1 0 1 = -1");
        Document.says("`name`: a name at the apex of the zone");
        Ranges.argument("set", 1);
        fresh("addZone 0 .21 = 0", "set 0 .21 0 1 = 1", "set 0 .211 0 1 = 2", "set 0 .214 0 1 = 3",
                "set 0 .2 0 1 = -1", "set 0 .22 0 1 = -1", "set 0 .12 0 1 = -1",
                "set 0 .221 0 1 = -1", "set 0 .121 0 1 = -1", "count 3 = 3");
        Document.says("`type`: 0 to 2");
        Ranges.argument("set", 2);
        fresh("addZone 0 .1 = 0", "set 0 .1 -1 1 = -1", "set 0 .1 0 1 = 1", "set 0 .1 1 1 = 2",
                "set 0 .1 2 1 = 3", "set 0 .1 3 1 = -1");
        Document.says("`value`: a value for this type");
        Ranges.argument("set", 3);
        fresh("addZone 0 .1 = 0", "set 0 .1 0 255 = 1", "set 0 .1 0 256 = -1", "set 0 .1 0 0 = 1",
                "set 0 .1 0 -1 = -1", "set 0 .1 1 124 = 2", "set 0 .1 1 125 = -1",
                "set 0 .1 1 1 = 2", "set 0 .1 1 0 = -1", "set 0 .1 2 999 = 3",
                "set 0 .1 2 1000 = -1", "set 0 .1 2 0 = 3", "set 0 .1 2 -1 = -1", "count 3 = 6");
        Document.says("Returns the number of records of the zone;");
        fresh("addZone 0 .1 = 0", "addZone 0 .2 = 1", "set 1 .2 0 1 = 1", "set 1 .2 2 1 = 2",
                "set 0 .1 0 1 = 1", "set 0 .14 0 1 = 2", "set 0 .14 0 2 = 2", "clear 0 .1 0 = 1",
                "set 0 .14 0 3 = 1", "pass 1 = 1", "set 0 .14 0 4 = 1", "set 0 .1 0 4 = 2");
        Document.says("INVALID_ARGUMENT if an argument is not as described;");
        Ranges.together("set");
        Document.says("NOT_POSSIBLE if the zone is not there any more;");
        fresh("addZone 0 .1 = 0", "removeZone 0 = 0", "set 0 .1 0 1 = -2", "addZone 0 .1 = 1",
                "set 0 .1 0 1 = -2", "set 1 .1 0 1 = 1", "pass 1 = 1", "set 0 .1 0 1 = -2",
                "set 0 .2 0 1 = -1", "count 3 = 1");
        Document.says("LIMIT_REACHED if 70 changes have been made.");
        ViewedNames y = fullOfChanges();
        run(y, "set 0 .1 2 5 = -3", "set 0 .1 0 5 = -3", "count 3 = 70", "record 0 .1 2 0 = 69",
                "addZone 1 .1 = 1", "set 1 .1 0 1 = -3", "pass 1 = 1", "set 1 .1 0 1 = -3",
                "set 0 .1 2 1000 = -1", "removeZone 0 = 1", "set 0 .1 2 5 = -2",
                "set 1 .1 0 1 = -3");
    }

    private static void clear() {
        Document.promise(12);
        Document.says("Removes a record. This is a change.");
        fresh("addZone 0 .1 = 0", "set 0 .1 0 5 = 1", "set 0 .1 2 6 = 2", "clear 0 .1 0 = 5",
                "count 3 = 3", "count 2 = 1", "record 0 .1 0 0 = -4", "record 0 .1 2 0 = 6",
                "change 0 2 3 = -1", "serial 0 0 = 3");
        Document.says("`zone`: number of the zone");
        Ranges.argument("clear", 0);
        fresh("addZone 0 .1 = 0", "addZone 1 .1 = 1", "set 1 .1 0 1 = 1", "clear 0 .1 0 = -4",
                "clear 2 .1 0 = -1", "clear -1 .1 0 = -1", "clear 1 .1 0 = 1");
        Document.says("`name`: a name");
        Ranges.argument("clear", 1);
        fresh("addZone 0 .1 = 0", "clear 0 .2 0 = -4", "clear 0 .444 0 = -4", "clear 0 0 0 = -1",
                "clear 0 125 0 = -1", "clear 0 26 0 = -1");
        Document.says("`type`: 0 to 2");
        Ranges.argument("clear", 2);
        fresh("addZone 0 .1 = 0", "set 0 .1 0 7 = 1", "set 0 .1 1 8 = 2", "set 0 .1 2 9 = 3",
                "clear 0 .1 -1 = -1", "clear 0 .1 3 = -1", "clear 0 .1 2 = 9", "clear 0 .1 1 = 8",
                "clear 0 .1 0 = 7");
        Document.says("Returns the value it had;");
        fresh("addZone 0 .1 = 0", "set 0 .1 0 0 = 1", "clear 0 .1 0 = 0", "set 0 .1 0 255 = 1",
                "pass 1 = 1", "clear 0 .1 0 = 255", "set 0 .1 1 124 = 1", "clear 0 .1 1 = 124",
                "set 0 .1 2 1 = 1", "set 0 .1 2 999 = 1", "clear 0 .1 2 = 999");
        Document.says("INVALID_ARGUMENT if an argument is out of range;");
        Ranges.together("clear");
        Document.says("NOT_POSSIBLE if the zone is not there any more;");
        fresh("addZone 0 .1 = 0", "set 0 .1 0 5 = 1", "removeZone 0 = 1", "clear 0 .1 0 = -2",
                "clear 0 .1 1 = -2", "addZone 0 .1 = 1", "clear 0 .1 0 = -2", "clear 1 .1 0 = -4",
                "pass 1 = 1", "clear 0 .1 0 = -2", "clear 0 .1 3 = -1", "count 3 = 1");
        Document.says("LIMIT_REACHED if 70 changes have been made;");
        ViewedNames x = fullOfChanges();
        run(x, "clear 0 .1 2 = -3", "record 0 .1 2 0 = 69", "clear 0 .1 0 = -3",
                "clear 0 .2 0 = -3", "clear 0 .1 3 = -1", "count 3 = 70", "removeZone 0 = 1",
                "clear 0 .1 2 = -2");
        ViewedNames y = fresh("addZone 0 .1 = 0", "set 0 .11 0 7 = 1");
        for (int i = 0; i < 68; i++) {
            y.set(0, n("1"), 2, i);
        }
        run(y, "count 3 = 69", "clear 0 .11 1 = -4", "clear 0 .11 0 = 7", "count 3 = 70",
                "clear 0 .11 0 = -3", "clear 0 .1 2 = -3");
        Document.says("NOT_FOUND if there is no such record.");
        fresh("addZone 0 .1 = 0", "clear 0 .1 0 = -4", "set 0 .1 0 5 = 1", "clear 0 .1 1 = -4",
                "clear 0 .11 0 = -4", "set 0 .14 0 6 = 2", "clear 0 .12 0 = -4",
                "clear 0 .1 0 = 5", "clear 0 .1 0 = -4", "pass 1 = 1", "clear 0 .1 0 = -4",
                "count 3 = 3", "serial 0 1 = 3");
    }

    private static void record() {
        Document.promise(13);
        Document.says("Returns the value of a record of a zone.");
        ViewedNames x = fresh("addZone 0 .1 = 0", "addZone 1 .1 = 1", "set 0 .1 0 5 = 1",
                "set 1 .1 0 6 = 1", "record 0 .1 0 0 = 5", "record 1 .1 0 0 = 6");
        Document.says("`zone`: number of the zone");
        Ranges.argument("record", 0);
        run(x, "record 2 .1 0 0 = -1", "record -1 .1 0 0 = -1");
        Document.says("`name`: a name");
        Ranges.argument("record", 1);
        run(x, "record 0 .444 0 0 = -4", "record 0 .2 0 0 = -4", "record 0 0 0 0 = -1",
                "record 0 125 0 0 = -1");
        Document.says("`type`: 0 to 2");
        Ranges.argument("record", 2);
        run(x, "record 0 .1 -1 0 = -1", "record 0 .1 1 0 = -4", "record 0 .1 2 0 = -4",
                "record 0 .1 3 0 = -1");
        Document.says("`tick`: 0 to T");
        Ranges.argument("record", 3);
        run(x, "record 0 .1 0 -1 = -1", "record 0 .1 0 1 = -1", "pass 1 = 1",
                "record 0 .1 0 1 = 5");
        Document.says("Returns the value;");
        fresh("addZone 0 .1 = 0", "set 0 .1 0 0 = 1", "set 0 .1 1 124 = 2", "set 0 .1 2 999 = 3",
                "pass 2 = 2", "set 0 .1 0 255 = 3", "set 0 .1 0 254 = 3", "pass 2 = 4",
                "clear 0 .1 0 = 254", "record 0 .1 0 0 = 0", "record 0 .1 0 1 = 0",
                "record 0 .1 0 2 = 254", "record 0 .1 0 3 = 254", "record 0 .1 0 4 = -4",
                "record 0 .1 1 4 = 124", "record 0 .1 2 0 = 999");
        Document.says("INVALID_ARGUMENT if an argument is out of range;");
        Ranges.together("record");
        Document.says("NOT_POSSIBLE if the zone was not there at this tick;");
        fresh("pass 2 = 2", "addZone 0 .1 = 0", "set 0 .1 0 5 = 1", "pass 2 = 4",
                "record 0 .1 0 0 = -2", "record 0 .1 0 1 = -2", "record 0 .1 0 2 = 5",
                "removeZone 0 = 1", "record 0 .1 0 3 = 5", "record 0 .1 0 4 = -2",
                "record 0 .2 0 4 = -2", "record 0 .1 0 5 = -1", "pass 1 = 5",
                "record 0 .1 0 5 = -2", "addZone 0 .1 = 1", "set 1 .1 0 6 = 1",
                "removeZone 1 = 1", "record 1 .1 0 5 = -2", "record 1 .1 0 4 = -2");
        Document.says("NOT_FOUND if there was no such record.");
        fresh("addZone 0 .1 = 0", "pass 1 = 1", "set 0 .14 0 5 = 1", "pass 1 = 2",
                "clear 0 .14 0 = 5", "record 0 .14 0 0 = -4", "record 0 .14 0 1 = 5",
                "record 0 .14 0 2 = -4", "record 0 .14 1 1 = -4", "record 0 .11 0 1 = -4",
                "record 0 .1 0 1 = -4", "record 0 .2 0 1 = -4");
    }

    private static void serial() {
        Document.promise(14);
        Document.says("Returns the number of changes of a zone up to a tick.");
        ViewedNames x = fresh("pass 1 = 1", "addZone 0 .1 = 0", "addZone 0 .2 = 1", "pass 1 = 2",
                "set 0 .1 0 1 = 1", "set 0 .1 0 1 = 1", "set 1 .2 0 1 = 1", "pass 2 = 4",
                "clear 0 .1 0 = 1", "clear 0 .1 0 = -4", "pass 1 = 5", "removeZone 0 = 0",
                "pass 1 = 6");
        int[] want = {0, 0, 2, 2, 3, 3, 3};
        for (int tick = 0; tick < want.length; tick++) {
            Due.is("serial at " + tick, x.serial(0, tick), want[tick]);
            Due.is("serial of the other at " + tick, x.serial(1, tick), tick < 2 ? 0 : 1);
        }
        Document.says("`zone`: number of the zone");
        Ranges.argument("serial", 0);
        run(x, "serial 2 0 = -1", "serial -1 0 = -1");
        Document.says("`tick`: 0 to T");
        Ranges.argument("serial", 1);
        run(x, "serial 0 -1 = -1", "serial 0 6 = 3", "serial 0 7 = -1");
        Document.says("Returns the number;");
        run(fullOfChanges(), "serial 0 0 = 70", "set 0 .1 2 1 = -3", "serial 0 0 = 70",
                "pass 1000 = 1000", "serial 0 1000 = 70");
        fresh("addZone 0 .1 = 0", "serial 0 0 = 0", "set 0 .1 0 256 = -1", "serial 0 0 = 0");
        Document.says("INVALID_ARGUMENT if an argument is out of range.");
        Ranges.together("serial");
    }

    private static void change() {
        Document.promise(15);
        Document.says("Describes a change of a zone.");
        ViewedNames x = fresh("pass 3 = 3", "addZone 0 .1 = 0", "addZone 1 .1 = 1",
                "set 1 .1 2 999 = 1", "set 0 .144 1 124 = 1", "pass 2 = 5", "set 1 .1 2 0 = 1",
                "clear 0 .144 1 = 124", "change 0 0 0 = 3", "change 0 0 1 = .144",
                "change 0 0 2 = 1", "change 0 0 3 = 124", "change 0 1 0 = 5",
                "change 0 1 1 = .144", "change 0 1 2 = 1", "change 0 1 3 = -1");
        Document.says("`zone`: number of the zone");
        Ranges.argument("change", 0);
        run(x, "change 1 0 3 = 999", "change 1 1 3 = 0", "change 2 0 0 = -1", "change -1 0 0 = -1");
        Document.says("`index`: 0 for the first one, and so on");
        Ranges.argument("change", 1);
        ViewedNames y = fullOfChanges();
        for (int index = 0; index < 70; index++) {
            Due.is("index " + index, y.change(0, index, 3), index);
        }
        run(y, "change 0 70 3 = -4", "change 0 -1 3 = -1");
        Document.says("`what`: 0: the tick; 1: the name; 2: the type; 3: the value, -1 if the "
                + "record was removed");
        Ranges.argument("change", 2);
        run(x, "change 0 0 -1 = -1", "change 0 0 4 = -1", "removeZone 0 = 0", "pass 1 = 6",
                "change 0 1 0 = 5", "change 0 1 3 = -1", "change 0 2 0 = -4");
        Document.says("Returns the number;");
        fresh("addZone 0 .1 = 0", "set 0 .1 0 0 = 1", "set 0 .1 0 0 = 1", "change 0 1 0 = 0",
                "change 0 1 1 = 1", "change 0 1 2 = 0", "change 0 1 3 = 0", "clear 0 .1 0 = 0",
                "set 0 .1 0 9 = 1", "change 0 2 3 = -1", "change 0 0 3 = 0", "change 0 3 3 = 9");
        Document.says("INVALID_ARGUMENT if an argument is out of range (index negative);");
        Ranges.together("change");
        fresh("addZone 0 .1 = 0", "change 0 -1 0 = -1", "change 0 -2147483648 0 = -1",
                "change 0 0 4 = -1", "change 1 0 0 = -1");
        Document.says("NOT_FOUND if there are not so many changes.");
        fresh("addZone 0 .1 = 0", "addZone 0 .2 = 1", "change 0 0 0 = -4", "set 1 .2 0 1 = 1",
                "change 0 0 0 = -4", "set 0 .1 0 1 = 1", "change 0 0 0 = 0", "change 0 1 0 = -4",
                "change 0 1 3 = -4", "change 0 2147483647 0 = -4", "clear 0 .1 1 = -4",
                "change 0 1 0 = -4", "set 0 .1 0 256 = -1", "change 0 1 0 = -4");
    }

    private static void lay() {
        Document.promise(16);
        Document.says("Makes the changes of the text in a zone, in their order; those that remove "
                + "a record that is not there do nothing (and are no changes).");
        ViewedNames x = fresh("pass 1 = 1", "addZone 0 .1 = 0");
        write(x, "1:0-;1:0=1;1:0=2;1:0-;1:0-;12:1=2;1:2=007;1:0=000;12:2-;");
        run(x, "lay 0 = 3", "count 3 = 6", "serial 0 1 = 6", "serial 0 0 = 0", "change 0 0 3 = 1",
                "change 0 1 3 = 2", "change 0 2 3 = -1", "change 0 3 1 = .12", "change 0 3 3 = .2",
                "change 0 4 2 = 2", "change 0 4 3 = 7", "change 0 5 3 = 0", "change 0 5 0 = 1",
                "record 0 .1 0 1 = 0", "record 0 .12 1 1 = 2");
        ViewedNames y = fresh("addZone 0 .1 = 0");
        write(y, "1:0-;1:1-;1:2-;11:0-;");
        run(y, "lay 0 = 0", "count 3 = 0", "change 0 0 0 = -4");
        Document.says("An empty text makes no change.");
        fresh("addZone 0 .1 = 0", "lay 0 = 0", "count 3 = 0", "set 0 .1 0 1 = 1", "lay 0 = 1",
                "count 3 = 1");
        run(fullOfChanges(), "lay 0 = 1", "count 3 = 70");
        Document.says("The text stays.");
        ViewedNames z = fresh("addZone 0 .1 = 0", "addZone 1 .1 = 1");
        write(z, "1:0=5;");
        run(z, "lay 0 = 1", "lay 1 = 1", "lay 0 = 1", "count 3 = 3", "fault = -4", "type 49 = 7",
                "fault = 6", "lay 0 = -2", "clearText = 7");
        Document.says("`zone`: number of the zone");
        Ranges.argument("lay", 0);
        Document.says("Returns the number of records of the zone;");
        ViewedNames w = fresh("addZone 0 .1 = 0", "addZone 0 .2 = 1", "set 0 .1 0 1 = 1",
                "set 0 .1 2 1 = 2");
        write(w, "2:0=5;");
        run(w, "lay 1 = 1");
        write(w, "1:0-;1:2-;11:0=1;12:0=1;13:0=1;");
        run(w, "lay 0 = 3", "count 2 = 4");
        write(w, "11:0-;12:0-;13:0-;");
        run(w, "lay 0 = 0", "lay 0 = 0", "count 2 = 1");
    }

    private static void layRefused() {
        Document.says("INVALID_ARGUMENT;");
        fresh("lay 0 = -1", "addZone 0 .1 = 0", "lay 1 = -1", "lay -1 = -1", "type 49 = 1",
                "lay 0 = -2", "lay 1 = -1");
        Document.says("NOT_POSSIBLE if the zone is not there any more,");
        ViewedNames x = fresh("addZone 0 .1 = 0", "removeZone 0 = 0", "lay 0 = -2");
        write(x, "1:0=5;");
        run(x, "lay 0 = -2", "addZone 0 .1 = 1", "lay 0 = -2", "lay 1 = 1");
        Document.says("or the text has a fault");
        for (String text : new String[] {"1", "1:0=5", "1:0=5;1", "1:0=5;1:0=256;", "1:0=5;;"}) {
            ViewedNames y = fresh("addZone 0 .1 = 0");
            write(y, text);
            run(y, "lay 0 = -2", "count 3 = 0", "count 2 = 0");
        }
        Document.says("or contains a name that is not at the apex;");
        for (String text : new String[] {"1:0=5;", "12:0=5;1:0=5;", "12:0=5;13:0=5;", "12:0=5;1:0-;",
            "21:0=5;12:0=5;", "112:0-;", "121:0=5;212:2=5;"}) {
            ViewedNames y = fresh("addZone 0 .12 = 0");
            write(y, text);
            run(y, "lay 0 = -2", "count 3 = 0", "count 2 = 0", "fault = -4");
        }
        ViewedNames at = fresh("addZone 0 .12 = 0");
        write(at, "12:0=5;124:1=3;121:0-;");
        run(at, "lay 0 = 2", "record 0 .124 1 0 = .3");
        Document.says("LIMIT_REACHED if there would be more than 70 changes, where each one of the "
                + "text counts, also one that would do nothing; then none is made.");
        for (int before = 55; before <= 70; before++) {
            layAfter(before, State.FULL_TEXT, 12, 0);
            layAfter(before, "1:0=1;11:0=2;1:0=3;", 3, 3);
            layAfter(before, "1:0=1;1:1-;", 2, 1);
            layAfter(before, "1:1-;", 1, 0);
            layAfter(before, "", 0, 0);
        }
    }

    /** A text of some changes, of which some are made, after others. */
    private static void layAfter(int before, String text, int changes, int made) {
        ViewedNames x = fresh("addZone 0 .1 = 0");
        for (int i = 0; i < before; i++) {
            x.set(0, n("1"), 2, i);
        }
        write(x, text);
        boolean fits = before + changes <= 70;
        int records = 1 + (text.contains("1:0=") ? 1 : 0) + (text.contains("11:0=") ? 1 : 0);
        Due.is(text + " after " + before, x.lay(0), fits ? records : LIMIT);
        Due.is("changes", x.count(3), fits ? before + made : before);
        Due.is("records", x.count(2), fits ? records : 1);
        Due.is("the text stays", x.clearText(), text.length());
    }
}

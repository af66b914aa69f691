/** The sentences of the promises 1 to 10: time, nets and zones. */
final class ZoneEdges extends Setting {
    private ZoneEdges() {
    }

    static void check() {
        newObject();
        pass();
        time();
        addNet();
        removeNet();
        viewOf();
        addZone();
        removeZone();
        zoneInfo();
        count();
    }

    private static void newObject() {
        Document.promise(1);
        Document.says("Creates a name service without nets and zones at tick 0.");
        ViewedNames used = State.FULL.build();
        fresh("time = 0", "count 0 = 0", "count 1 = 0", "count 2 = 0", "count 3 = 0",
                "count 4 = 0", "count 5 = 0", "removeNet 0 = -1", "removeZone 0 = -1",
                "viewOf 0 0 = 0", "viewOf 255 0 = 0", "zoneFor 0 .1 0 = -4", "stale = 0",
                "fault = -4", "clearText = 0", "setKeeping 0 = 3", "addNet 1 0 1 = 0",
                "addZone 0 .1 = 0", "pass 1 = 1");
        run(used, "time = 9999", "count 0 = 9", "count 3 = 70");
    }

    private static void pass() {
        Document.promise(2);
        Document.says("Lets ticks pass.");
        fresh("pass 1 = 1", "time = 1", "pass 999 = 1000", "time = 1000");
        Document.says("`ticks`: 1 to 1000");
        Ranges.argument("pass", 0);
        fresh("pass 1000 = 1000", "pass 1 = 1001");
        Document.says("Returns t then;");
        ViewedNames x = new ViewedNames();
        for (int now = 0, ticks = 1; now + ticks <= 9999 && ticks <= 140; ticks++) {
            now += ticks;
            Due.is("pass " + ticks, x.pass(ticks), now);
        }
        Document.says("INVALID_ARGUMENT if ticks is out of range;");
        fresh("pass 0 = -1", "pass -1 = -1", "pass 1001 = -1", "pass 2147483647 = -1",
                "pass -2147483648 = -1", "time = 0");
        Document.says("LIMIT_REACHED if T would be greater than 9999.");
        for (int ticks : new int[] {1, 2, 500, 999, 1000}) {
            ViewedNames y = new ViewedNames();
            passTo(y, 9999 - ticks + 1);
            Due.is("one tick too many", y.pass(ticks), LIMIT);
            Due.is("still", y.time(), 9999 - ticks + 1);
            ViewedNames z = new ViewedNames();
            passTo(z, 9999 - ticks);
            Due.is("just the last tick", z.pass(ticks), 9999);
            run(z, "pass 1 = -3", "pass 1000 = -3", "pass 0 = -1", "pass 1001 = -1", "time = 9999");
        }
    }

    private static void time() {
        Document.promise(3);
        Document.says("Returns T.");
        ViewedNames x = fresh("time = 0", "pass 1000 = 1000", "time = 1000", "pass 0 = -1",
                "time = 1000", "addZone 0 .1 = 0", "time = 1000", "pass 1 = 1001", "time = 1001");
        passTo(x, 9999);
        run(x, "time = 9999", "pass 1 = -3", "time = 9999");
    }

    private static void addNet() {
        Document.promise(4);
        Document.says("Makes a net.");
        fresh("addNet 1 0 8 = 0", "count 0 = 1", "viewOf 0 0 = 1", "viewOf 1 0 = 0");
        Document.says("`view`: 1 to 3");
        Ranges.argument("addNet", 0);
        fresh("addNet 1 0 8 = 0", "addNet 2 1 8 = 1", "addNet 3 2 8 = 2", "viewOf 0 0 = 1",
                "viewOf 1 0 = 2", "viewOf 2 0 = 3");
        Document.says("`base`: 0 to 255");
        Ranges.argument("addNet", 1);
        fresh("addNet 1 0 8 = 0", "addNet 2 255 8 = 1", "viewOf 0 0 = 1", "viewOf 255 0 = 2",
                "viewOf 254 0 = 0");
        Document.says("`length`: 1 to 8");
        Ranges.argument("addNet", 2);
        fresh("addNet 1 200 1 = 0", "seenBy .1 0 -11 0 = 256", "viewOf 128 0 = 1",
                "viewOf 127 0 = 0", "addNet 2 200 8 = 1", "viewOf 200 0 = 2", "viewOf 201 0 = 1");
        Document.says("Returns the number of the net;");
        fresh("addNet 1 0 1 = 0", "addNet 1 0 1 = 1", "removeNet 1 = 1", "addNet 1 0 1 = 2",
                "addNet 4 0 1 = -1", "addNet 1 0 1 = 3");
        Document.says("INVALID_ARGUMENT if an argument is out of range;");
        Ranges.together("addNet");
        Document.says("LIMIT_REACHED if 10 nets have been made.");
        ViewedNames x = new ViewedNames();
        for (int i = 0; i < 10; i++) {
            Due.is("net " + i, x.addNet(1, 0, 1), i);
        }
        run(x, "addNet 1 0 1 = -3", "count 0 = 10", "removeNet 0 = 1", "addNet 1 0 1 = -3",
                "count 0 = 9", "pass 1 = 1", "addNet 1 0 1 = -3", "addNet 0 0 1 = -1");
    }

    private static void removeNet() {
        Document.promise(5);
        Document.says("Removes a net.");
        fresh("addNet 1 0 1 = 0", "addNet 2 0 1 = 1", "removeNet 0 = 1", "viewOf 0 0 = 2",
                "count 0 = 1", "removeNet 1 = 2", "viewOf 0 0 = 0", "count 0 = 0");
        Document.says("`net`: number of the net");
        Ranges.argument("removeNet", 0);
        ViewedNames x = new ViewedNames();
        for (int i = 0; i < 10; i++) {
            x.addNet(1 + i % 3, 0, 1);
        }
        run(x, "removeNet 9 = 1", "removeNet 0 = 1", "removeNet 10 = -1", "count 0 = 8");
        Document.says("Returns the view it had;");
        fresh("addNet 3 0 1 = 0", "addNet 1 0 1 = 1", "addNet 2 0 1 = 2", "pass 1 = 1",
                "removeNet 2 = 2", "removeNet 0 = 3", "removeNet 1 = 1");
        Document.says("INVALID_ARGUMENT;");
        fresh("removeNet 0 = -1", "removeNet -1 = -1", "addNet 1 0 1 = 0", "removeNet 1 = -1",
                "removeNet -1 = -1", "removeNet 2147483647 = -1", "count 0 = 1");
        Document.says("NOT_POSSIBLE if it is not there any more.");
        fresh("addNet 1 0 1 = 0", "removeNet 0 = 1", "removeNet 0 = -2", "pass 1 = 1",
                "removeNet 0 = -2", "addNet 1 0 1 = 1", "removeNet 0 = -2", "pass 1 = 2",
                "removeNet 1 = 1", "removeNet 1 = -2");
    }

    private static void viewOf() {
        Document.promise(6);
        Document.says("Returns the view of an address.");
        ViewedNames x = fresh("addNet 1 0 2 = 0", "addNet 2 64 2 = 1", "addNet 3 128 2 = 2",
                "viewOf 0 0 = 1", "viewOf 63 0 = 1", "viewOf 64 0 = 2", "viewOf 127 0 = 2",
                "viewOf 128 0 = 3", "viewOf 191 0 = 3", "viewOf 192 0 = 0", "viewOf 255 0 = 0");
        Document.says("`address`: 0 to 255");
        Ranges.argument("viewOf", 0);
        run(x, "viewOf -1 0 = -1", "viewOf 256 0 = -1");
        Document.says("`tick`: 0 to T");
        Ranges.argument("viewOf", 1);
        run(x, "viewOf 0 -1 = -1", "viewOf 0 1 = -1", "pass 1 = 1", "viewOf 0 1 = 1");
        Document.says("Returns the view;");
        fresh("pass 3 = 3", "addNet 2 0 1 = 0", "pass 3 = 6", "removeNet 0 = 2", "viewOf 9 0 = 0",
                "viewOf 9 2 = 0", "viewOf 9 3 = 2", "viewOf 9 5 = 2", "viewOf 9 6 = 0");
        Document.says("INVALID_ARGUMENT if an argument is out of range.");
        Ranges.together("viewOf");
    }

    private static void addZone() {
        Document.promise(7);
        Document.says("Makes a zone, which has no records.");
        fresh("addZone 0 .1 = 0", "set 0 .1 0 1 = 1", "removeZone 0 = 1", "addZone 0 .1 = 1",
                "record 1 .1 0 0 = -4", "serial 1 0 = 0", "change 1 0 0 = -4", "count 2 = 0",
                "viewAnswer 0 .1 0 0 = -12", "removeZone 1 = 0");
        Document.says("`view`: 0 to 3");
        Ranges.argument("addZone", 0);
        fresh("addZone -1 .1 = -1", "addZone 0 .1 = 0", "addZone 3 .1 = 1", "addZone 4 .1 = -1");
        Document.says("`apex`: a name that is no pattern");
        Ranges.argument("addZone", 1);
        fresh("addZone 0 .4 = -1", "addZone 0 .34 = -1", "addZone 0 .334 = -1",
                "addZone 0 .444 = -1", "addZone 0 .3 = 0", "addZone 0 .43 = 1",
                "addZone 0 .443 = 2", "addZone 0 .333 = 3", "addZone 0 0 = -1", "addZone 0 26 = -1");
        Document.says("Returns the number of the zone;");
        fresh("addZone 0 .1 = 0", "addZone 0 .2 = 1", "addZone 0 .2 = -2", "removeZone 1 = 0",
                "addZone 0 .2 = 2", "addZone 0 .4 = -1", "addZone 0 .3 = 3");
        Document.says("INVALID_ARGUMENT if an argument is out of range;");
        Ranges.together("addZone");
        Document.says("NOT_POSSIBLE if there is a zone with this view and apex;");
        fresh("addZone 2 .31 = 0", "addZone 2 .31 = -2", "addZone 3 .31 = 1", "addZone 2 .3 = 2",
                "addZone 2 .13 = 3", "pass 1 = 1", "addZone 2 .31 = -2", "removeZone 0 = 0",
                "addZone 2 .31 = 4", "removeZone 4 = 0", "pass 1 = 2", "addZone 2 .31 = 5");
        Document.says("LIMIT_REACHED if 10 zones have been made.");
        ViewedNames x = new ViewedNames();
        for (int i = 0; i < 10; i++) {
            Due.is("zone " + i, x.addZone(i % 4, n(allApexes().get(i))), i);
        }
        run(x, "addZone 0 .333 = -3", "addZone 0 .1 = -2", "addZone 0 .4 = -1", "count 1 = 10",
                "removeZone 0 = 0", "addZone 0 .1 = -3", "pass 1 = 1", "addZone 0 .1 = -3",
                "count 1 = 9", "zoneInfo 10 0 = -1");
    }

    private static void removeZone() {
        Document.promise(8);
        Document.says("Removes a zone.");
        fresh("addZone 0 .1 = 0", "addZone 1 .1 = 1", "removeZone 1 = 0", "count 1 = 1",
                "zoneFor 1 .1 0 = 0", "removeZone 0 = 0", "zoneFor 1 .1 0 = -4", "count 1 = 0");
        Document.says("`zone`: number of the zone");
        Ranges.argument("removeZone", 0);
        Due.is("the last one", State.FULL.build().removeZone(8), 1);
        Document.says("Returns the number of records that it had;");
        ViewedNames x = fresh("addZone 0 .1 = 0", "addZone 0 .2 = 1", "set 0 .1 0 1 = 1",
                "set 0 .1 0 2 = 1", "set 0 .1 1 2 = 2", "set 0 .11 2 2 = 3", "clear 0 .1 0 = 2",
                "set 1 .2 0 1 = 1", "pass 1 = 1", "removeZone 0 = 2", "removeZone 1 = 1");
        Due.is("no records are there", x.count(2), 0);
        Due.is("none", fresh("addZone 0 .1 = 0").removeZone(0), 0);
        Due.is("all cleared", fresh("addZone 0 .1 = 0", "set 0 .1 0 5 = 1", "clear 0 .1 0 = 5")
                .removeZone(0), 0);
        ViewedNames y = fresh("addZone 0 .1 = 0");
        int most = 0;
        for (String name : allNames()) {
            for (int type = 0; type <= 2 && name.startsWith("1"); type++) {
                most++;
                Due.is("set", y.set(0, n(name), type, 1), most);
            }
        }
        Due.is("three for each of 21 names", y.removeZone(0), 63);
        Document.says("INVALID_ARGUMENT;");
        fresh("removeZone 0 = -1", "removeZone -1 = -1", "addZone 0 .1 = 0", "removeZone 1 = -1",
                "removeZone -1 = -1", "removeZone 2147483647 = -1", "count 1 = 1");
        Document.says("NOT_POSSIBLE if it is not there any more.");
        fresh("addZone 0 .1 = 0", "removeZone 0 = 0", "removeZone 0 = -2", "pass 1 = 1",
                "removeZone 0 = -2", "addZone 0 .1 = 1", "removeZone 0 = -2", "zoneInfo 0 3 = 0",
                "pass 1 = 2", "removeZone 1 = 0", "removeZone 1 = -2", "zoneInfo 1 3 = 2");
    }

    private static void zoneInfo() {
        Document.promise(9);
        Document.says("Returns a property of a zone.");
        ViewedNames x = fresh("pass 4 = 4", "addZone 3 .21 = 0", "pass 1 = 5", "addZone 0 .2 = 1",
                "zoneInfo 0 0 = 3", "zoneInfo 1 0 = 0", "zoneInfo 0 1 = .21", "zoneInfo 1 1 = .2");
        Document.says("`zone`: number of the zone");
        Ranges.argument("zoneInfo", 0);
        run(x, "zoneInfo 2 0 = -1", "zoneInfo -1 0 = -1");
        Document.says("`what`: 0: its view; 1: its apex; 2: the tick at which it was made; 3: the "
                + "tick at which it was removed");
        Ranges.argument("zoneInfo", 1);
        run(x, "zoneInfo 0 2 = 4", "zoneInfo 1 2 = 5", "pass 1 = 6", "removeZone 0 = 0",
                "zoneInfo 0 3 = 6", "pass 1 = 7", "zoneInfo 0 3 = 6", "zoneInfo 0 2 = 4",
                "zoneInfo 0 -1 = -1", "zoneInfo 0 4 = -1");
        Document.says("Returns the property;");
        fresh("addZone 0 .1 = 0", "removeZone 0 = 0", "zoneInfo 0 0 = 0", "zoneInfo 0 1 = 1",
                "zoneInfo 0 2 = 0", "zoneInfo 0 3 = 0");
        ViewedNames y = new ViewedNames();
        passTo(y, 9999);
        run(y, "addZone 3 .443 = 0", "zoneInfo 0 0 = 3", "zoneInfo 0 1 = .443",
                "zoneInfo 0 2 = 9999", "removeZone 0 = 0", "zoneInfo 0 3 = 9999");
        Document.says("INVALID_ARGUMENT if an argument is out of range;");
        Ranges.together("zoneInfo");
        Document.says("NOT_FOUND if what is 3 and it is still there.");
        fresh("addZone 0 .1 = 0", "zoneInfo 0 3 = -4", "pass 1 = 1", "zoneInfo 0 3 = -4",
                "addZone 0 .2 = 1", "removeZone 1 = 0", "zoneInfo 0 3 = -4", "zoneInfo 1 3 = 1",
                "zoneInfo 2 3 = -1", "removeZone 0 = 0", "zoneInfo 0 3 = 1", "addZone 0 .1 = 2",
                "zoneInfo 2 3 = -4", "zoneInfo 0 3 = 1");
    }

    private static void count() {
        Document.promise(10);
        Document.says("Returns a number.");
        run(State.FULL.build(), "count 0 = 9", "count 1 = 9", "count 3 = 70", "count 4 = 6",
                "count 5 = 0");
        Document.says("`what`: 0: nets that are there; 1: zones that are there; 2: records of all "
                + "these zones; 3: changes that have been made; 4: answers that are kept; 5: hits");
        Ranges.argument("count", 0);
        ViewedNames x = fresh("addNet 1 0 1 = 0", "addNet 1 0 1 = 1", "addNet 1 0 1 = 2",
                "removeNet 1 = 1", "count 0 = 2", "addZone 0 .1 = 0", "addZone 1 .1 = 1",
                "addZone 2 .1 = 2", "set 0 .1 0 1 = 1", "set 0 .1 0 2 = 1", "set 0 .1 2 2 = 2",
                "set 1 .1 0 1 = 1", "set 2 .1 0 1 = 1", "clear 2 .1 0 = 1", "count 1 = 3",
                "count 2 = 3", "count 3 = 6", "removeZone 1 = 1", "count 1 = 2", "count 2 = 2",
                "count 3 = 6", "clear 0 .1 1 = -4", "count 3 = 6");
        for (int i = 0; i < 8; i++) {
            Due.is("kept", x.count(4), Math.min(i, 6));
            Due.is("hits", x.count(5), i);
            x.ask(200 + i, n("1"), 0);
            x.ask(200 + i, n("1"), 0);
        }
        run(x, "setKeeping 0 = 3", "pass 1000 = 1000", "count 4 = 6", "count 5 = 8",
                "count 0 = 2", "count 1 = 2", "count 2 = 2", "count 3 = 6");
        Document.says("Returns the number;");
        fresh("count 0 = 0", "count 1 = 0", "count 2 = 0", "count 3 = 0", "count 4 = 0",
                "count 5 = 0");
        Document.says("INVALID_ARGUMENT if what is out of range.");
        fresh("count -1 = -1", "count 6 = -1", "count 2147483647 = -1", "count -2147483648 = -1");
    }
}

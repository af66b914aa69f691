/** The sentences about kept answers: in the description, and the promises 26 to 28. */
final class KeptEdges extends Setting {
    private KeptEdges() {
    }

    static void check() {
        keeping();
        replacing();
        setKeeping();
        ask();
        stale();
    }

    /** Asks, and tells whether that was a hit. */
    private static boolean hits(ViewedNames x, int address) {
        int before = x.count(5);
        x.ask(address, n("1"), 0);
        int after = x.count(5);
        Due.holds("at most one hit", after == before || after == before + 1);
        return after > before;
    }

    private static void keeping() {
        Document.head("Description");
        Document.says("At most 6 answers are kept, each with the address, the name, the type, the "
                + "answer and the tick at which it was found.");
        ViewedNames x = fresh("addZone 0 .1 = 0", "set 0 .1 0 5 = 1", "set 0 .1 2 6 = 2",
                "set 0 .11 0 7 = 3", "ask 0 .1 0 = 5", "count 4 = 1", "ask 1 .1 0 = 5",
                "count 4 = 2", "ask 0 .11 0 = 7", "count 4 = 3", "ask 0 .1 2 = 6", "count 4 = 4",
                "count 5 = 0", "removeZone 0 = 3", "ask 0 .1 0 = 5", "ask 1 .1 0 = 5",
                "ask 0 .11 0 = 7", "ask 0 .1 2 = 6", "count 4 = 4", "count 5 = 4",
                "ask 1 .11 0 = -11", "ask 0 .1 1 = -11", "count 4 = 6", "ask 9 .1 0 = -11",
                "count 4 = 6", "ask 10 .1 0 = -11", "count 4 = 6", "count 5 = 4");
        // Answers that are no values are kept as well.
        run(x, "addZone 0 .1 = 1", "ask 10 .1 0 = -11", "count 5 = 5");

        Document.says("The method ask returns a kept answer that is at most K ticks old (K is "
                + "initially 3), which is a hit;");
        for (int age = 0; age <= 6; age++) {
            ViewedNames y = fresh("ask 0 .1 0 = -11", "addZone 0 .1 = 0");
            passTo(y, age);
            Due.is("after " + age, y.ask(0, n("1"), 0), age <= 3 ? NO_ZONE : NO_NAME);
            Due.is("hits", y.count(5), age <= 3 ? 1 : 0);
        }
        for (int k : new int[] {0, 1, 2, 99, 100}) {
            for (int age = Math.max(0, k - 1); age <= k + 1; age++) {
                ViewedNames y = fresh("ask 0 .1 0 = -11", "addZone 0 .1 = 0");
                y.setKeeping(k);
                passTo(y, age);
                Due.is(age + " old with K " + k, y.ask(0, n("1"), 0), age <= k ? NO_ZONE : NO_NAME);
                Due.is("hits", y.count(5), age <= k ? 1 : 0);
            }
        }
    }

    private static void replacing() {
        Document.says("otherwise it finds the answer at T and keeps it (in place of an older one "
                + "for the same address, name and type,");
        ViewedNames x = fresh("ask 0 .1 0 = -11", "addZone 0 .1 = 0", "pass 4 = 4",
                "ask 0 .1 0 = -12", "count 4 = 1", "count 5 = 0", "set 0 .1 0 5 = 1",
                "pass 3 = 7", "ask 0 .1 0 = -12", "count 5 = 1", "pass 1 = 8", "ask 0 .1 0 = 5",
                "count 4 = 1", "count 5 = 1");
        // With 6 kept, none but the older one for the same question gives way.
        for (int address = 1; address <= 5; address++) {
            x.ask(address, n("1"), 0);
        }
        run(x, "count 4 = 6", "pass 4 = 12");
        for (int address = 2; address <= 4; address++) {
            Due.holds("found anew", !hits(x, address));
        }
        run(x, "count 4 = 6", "setKeeping 100 = 3");
        for (int address = 0; address <= 5; address++) {
            Due.holds("all are kept", hits(x, address));
        }

        Document.says("otherwise, if there are 6, in place of the oldest one, of several the one "
                + "that was found first).");
        ViewedNames y = fresh("setKeeping 100 = 3");
        for (int address = 0; address <= 5; address++) {
            Due.holds("new", !hits(y, address));
            y.pass(1);
        }
        Due.holds("a hit does not make an answer younger", hits(y, 0));
        Due.holds("6 in place of 0", !hits(y, 6));
        for (int address = 1; address <= 6; address++) {
            Due.holds("kept " + address, hits(y, address));
        }
        Due.holds("0 in place of 1", !hits(y, 0));
        Due.holds("1 in place of 2", !hits(y, 1));
        Due.holds("3 is kept", hits(y, 3));
        ofOneTick();
        foundAnew();
        ticksOfTheRest();
    }

    /** An answer that gives way leaves to the others the ticks at which they were found. */
    private static void ticksOfTheRest() {
        for (int found = 6; found <= 9; found++) {
            ViewedNames x = foundInTurn(found);
            agesAre(x, 1, 2, 3, 4, 5, 6);
        }
        for (int again = 0; again <= 5; again++) {
            ViewedNames x = foundInTurn(6);
            x.setKeeping(0);
            x.ask(again, n("1"), 0);
            int[] ages = {6, 5, 4, 3, 2, 1};
            ages[again] = 0;
            agesAre(x, ages);
        }
    }

    /** One address after the other asks, each a tick after the one before. */
    private static ViewedNames foundInTurn(int addresses) {
        ViewedNames x = fresh("setKeeping 100 = 3");
        for (int address = 0; address < addresses; address++) {
            x.ask(address, n("1"), 0);
            x.pass(1);
        }
        return x;
    }

    /** Makes all kept answers wrong, so that stale counts them by their ages. */
    private static void agesAre(ViewedNames x, int... ages) {
        x.addZone(0, n("1"));
        for (int k = 0; k <= 10; k++) {
            int young = 0;
            for (int age : ages) {
                young += age <= k ? 1 : 0;
            }
            x.setKeeping(k);
            Due.is("at most " + k + " ticks old", x.stale(), young);
        }
    }

    private static void ofOneTick() {
        ViewedNames x = fresh("setKeeping 100 = 3");
        int[] order = {3, 1, 4, 0, 5, 2};
        for (int address : order) {
            x.ask(address, n("1"), 0);
        }
        for (int i = 0; i < order.length; i++) {
            Due.holds("of one tick the first found gives way", !hits(x, 10 + i));
            for (int k = i + 1; k < order.length; k++) {
                Due.holds("kept " + order[k], hits(x, order[k]));
            }
        }
    }

    /** What is found anew is as young as the tick says, also in the tick of others. */
    private static void foundAnew() {
        ViewedNames x = fresh("setKeeping 0 = 3");
        x.ask(0, n("1"), 0);
        x.pass(1);
        for (int address = 1; address <= 5; address++) {
            x.ask(address, n("1"), 0);
        }
        x.ask(0, n("1"), 0);
        x.setKeeping(100);
        Due.holds("6 in place of 1", !hits(x, 6));
        Due.holds("0 is kept", hits(x, 0));
        Due.holds("1 in place of 2", !hits(x, 1));
        Due.holds("0 is kept", hits(x, 0));
    }

    private static void setKeeping() {
        Document.promise(26);
        Document.says("Sets K.");
        fresh("setKeeping 1 = 3", "ask 0 .1 0 = -11", "addZone 0 .1 = 0", "pass 1 = 1",
                "ask 0 .1 0 = -11", "pass 1 = 2", "setKeeping 2 = 1", "ask 0 .1 0 = -11",
                "setKeeping 1 = 2", "ask 0 .1 0 = -12", "count 5 = 2");
        Document.says("`ticks`: 0 to 100");
        Ranges.argument("setKeeping", 0);
        fresh("setKeeping 100 = 3", "ask 0 .1 0 = -11", "pass 100 = 100", "ask 0 .1 0 = -11",
                "count 5 = 1", "pass 1 = 101", "ask 0 .1 0 = -11", "count 5 = 1",
                "setKeeping 0 = 100", "ask 0 .1 0 = -11", "count 5 = 2", "pass 1 = 102",
                "ask 0 .1 0 = -11", "count 5 = 2");
        Document.says("Returns the previous K;");
        fresh("setKeeping 0 = 3", "setKeeping 100 = 0", "setKeeping 100 = 100", "setKeeping 7 = 100",
                "setKeeping 101 = -1", "setKeeping 3 = 7");
        Document.says("INVALID_ARGUMENT if ticks is out of range.");
        fresh("setKeeping -1 = -1", "setKeeping 101 = -1", "setKeeping 2147483647 = -1",
                "setKeeping -2147483648 = -1", "setKeeping 3 = 3");
    }

    private static void ask() {
        Document.promise(27);
        Document.says("Answers a question of a client at T, or by an answer that is kept.");
        fresh("addZone 1 .1 = 0", "set 0 .1 0 5 = 1", "addNet 1 0 1 = 0", "ask 127 .1 0 = 5",
                "ask 128 .1 0 = -11", "removeNet 0 = 1", "ask 127 .1 0 = 5", "ask 126 .1 0 = -11",
                "pass 4 = 4", "addNet 1 128 1 = 1", "ask 127 .1 0 = -11", "ask 128 .1 0 = 5",
                "count 5 = 1");
        Document.says("`address`: 0 to 255");
        Ranges.argument("ask", 0);
        fresh("ask -1 .1 0 = -1", "ask 256 .1 0 = -1", "ask 0 .1 0 = -11", "ask 255 .1 0 = -11",
                "count 4 = 2");
        Document.says("`name`: a name");
        Ranges.argument("ask", 1);
        fresh("ask 0 0 0 = -1", "ask 0 125 0 = -1", "ask 0 26 0 = -1", "ask 0 1 0 = -11",
                "ask 0 124 0 = -11", "count 4 = 2");
        Document.says("`type`: 0 to 2");
        Ranges.argument("ask", 2);
        fresh("ask 0 .1 -1 = -1", "ask 0 .1 3 = -1", "ask 0 .1 0 = -11", "ask 0 .1 1 = -11",
                "ask 0 .1 2 = -11", "count 4 = 3", "count 5 = 0");
        Document.says("Returns the answer;");
        fresh("addZone 0 .1 = 0", "ask 0 .2 0 = -11", "ask 0 .1 0 = -12", "set 0 .11 1 .11 = 1",
                "ask 1 .1 0 = -13", "ask 1 .11 0 = -14", "ask 1 .11 1 = .11",
                "set 0 .1 0 0 = 2", "ask 2 .1 0 = 0", "set 0 .1 2 999 = 3", "ask 2 .1 2 = 999",
                "ask 2 .1 0 = 0", "count 5 = 1");
        Document.says("INVALID_ARGUMENT if an argument is out of range.");
        Ranges.together("ask");
        fresh("ask 256 .1 0 = -1", "ask 256 .1 0 = -1", "count 4 = 0", "count 5 = 0");
    }

    private static void stale() {
        Document.promise(28);
        Document.says("Counts the kept answers that are at most K ticks old, and are not the "
                + "answers at T.");
        fresh("stale = 0", "addZone 0 .1 = 0", "ask 0 .1 0 = -12", "ask 0 .11 0 = -12",
                "stale = 0", "set 0 .1 0 5 = 1", "stale = 1", "set 0 .11 2 5 = 2", "stale = 2",
                "clear 0 .1 0 = 5", "stale = 2", "clear 0 .11 2 = 5", "stale = 0",
                "set 0 .1 0 5 = 1", "pass 3 = 3", "stale = 1", "pass 1 = 4", "stale = 0",
                "setKeeping 4 = 3", "stale = 1", "setKeeping 3 = 4", "stale = 0",
                "ask 0 .1 0 = 5", "setKeeping 100 = 3", "stale = 0", "removeZone 0 = 1",
                "stale = 2", "count 5 = 0", "count 4 = 2");
        // Asked for the view that the address has at T.
        fresh("setKeeping 0 = 3", "addZone 1 .1 = 0", "ask 0 .1 0 = -11", "addNet 1 0 8 = 0",
                "stale = 1", "removeNet 0 = 1", "stale = 0", "addNet 1 0 8 = 1", "stale = 1",
                "pass 1 = 1", "stale = 0");
        Document.says("Returns the number of answers.");
        ViewedNames x = fresh("ask 0 .2 0 = -11");
        for (int address = 0; address <= 5; address++) {
            Due.is("not stale", x.stale(), 0);
            x.ask(address, n("1"), 0);
        }
        run(x, "addZone 0 .1 = 0", "stale = 6", "stale = 6", "addZone 0 .2 = 1", "stale = 6",
                "ask 0 .2 0 = -12", "stale = 5", "count 4 = 6");
    }
}

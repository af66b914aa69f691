import java.util.ArrayList;
import java.util.List;

/** The sentences of the promises 17 to 25: questions. */
final class QuestionEdges extends Setting {
    /** A zone of view 0 and one of view 2 with the apex 1, and one of view 1 with the apex 12. */
    private static final String[] ZONES = {
        "addZone 0 .1 = 0", "addZone 2 .1 = 1", "addZone 1 .12 = 2", "set 0 .1 0 10 = 1",
        "set 0 .14 2 11 = 2", "set 0 .13 1 .12 = 3", "set 0 .12 0 12 = 4", "set 1 .1 0 20 = 1",
        "set 2 .123 0 30 = 1"};

    private QuestionEdges() {
    }

    static void check() {
        answer();
        viewAnswer();
        zoneFor();
        source();
        differences();
        difference();
        split();
        since();
        seenBy();
    }

    private static void answer() {
        Document.promise(17);
        Document.says("Answers a question of a client at a tick: for the view that its address had "
                + "at this tick.");
        // The view of then, not that of now, and the records of then.
        ViewedNames x = fresh(ZONES);
        run(x, "pass 1 = 1", "addNet 2 0 1 = 0", "pass 1 = 2", "set 1 .1 0 21 = 1", "pass 1 = 3",
                "removeNet 0 = 2", "addNet 1 0 1 = 1", "answer 0 .1 0 0 = 10",
                "answer 0 .1 0 1 = 20", "answer 0 .1 0 2 = 21", "answer 0 .1 0 3 = 10",
                "answer 0 .123 0 2 = -12", "answer 0 .123 0 3 = 30", "answer 128 .1 0 2 = 10",
                "answer 127 .1 0 2 = 21");
        Document.says("`address`: 0 to 255");
        Ranges.argument("answer", 0);
        Due.is("the last address", x.answer(255, n("1"), 0, 0), 10);
        Document.says("`name`: a name");
        Ranges.argument("answer", 1);
        Due.is("the last name", x.answer(0, n("444"), 0, 0), NO_ZONE);
        Document.says("`type`: 0 to 2");
        Ranges.argument("answer", 2);
        run(x, "answer 255 .13 0 0 = 12", "answer 255 .13 1 0 = .12", "answer 255 .13 2 0 = -13");
        Document.says("`tick`: 0 to T");
        Ranges.argument("answer", 3);
        run(x, "answer 0 .1 0 3 = 10", "answer 0 .1 0 4 = -1", "answer 0 .1 0 -1 = -1");
        Document.says("Returns the answer;");
        run(x, "answer 255 .2 0 0 = -11", "answer 255 .111 0 0 = -12", "answer 255 .1 1 0 = -13",
                "set 0 .1 1 .1 = 5", "answer 255 .1 2 3 = -14", "set 0 .1 0 0 = 5",
                "answer 255 .1 0 3 = 0", "set 0 .1 2 999 = 6", "answer 255 .1 2 3 = 999");
        Document.says("INVALID_ARGUMENT if an argument is out of range.");
        Ranges.together("answer");
    }

    private static void viewAnswer() {
        Document.promise(18);
        Document.says("Answers a question for a view at a tick.");
        ViewedNames x = fresh(ZONES);
        run(x, "viewAnswer 0 .1 0 0 = 10", "viewAnswer 1 .1 0 0 = 10", "viewAnswer 2 .1 0 0 = 20",
                "viewAnswer 3 .1 0 0 = 10", "viewAnswer 0 .13 0 0 = 12", "viewAnswer 1 .13 0 0 = -13",
                "viewAnswer 2 .13 0 0 = -12", "addNet 3 0 1 = 0", "viewAnswer 2 .1 0 0 = 20");
        Document.says("`view`: 0 to 3");
        Ranges.argument("viewAnswer", 0);
        run(x, "viewAnswer -1 .1 0 0 = -1", "viewAnswer 4 .1 0 0 = -1");
        Document.says("`name`: a name");
        Ranges.argument("viewAnswer", 1);
        for (String name : allNames()) {
            Due.holds("answers for " + name, x.viewAnswer(0, n(name), 0, 0) != INVALID);
        }
        Document.says("`type`: 0 to 2");
        Ranges.argument("viewAnswer", 2);
        run(x, "viewAnswer 0 .13 0 0 = 12", "viewAnswer 0 .13 1 0 = .12",
                "viewAnswer 0 .11 2 0 = 11", "viewAnswer 0 .13 3 0 = -1");
        Document.says("`tick`: 0 to T");
        Ranges.argument("viewAnswer", 3);
        run(x, "viewAnswer 0 .1 0 1 = -1", "pass 1000 = 1000", "viewAnswer 0 .1 0 1000 = 10",
                "viewAnswer 0 .1 0 999 = 10", "viewAnswer 0 .1 0 1001 = -1");
        Document.says("Returns the answer;");
        run(x, "viewAnswer 0 .2 0 0 = -11", "viewAnswer 2 .12 0 0 = -12",
                "viewAnswer 0 .14 0 0 = -13", "set 1 .1 1 .1 = 2", "viewAnswer 2 .1 2 1000 = -14",
                "viewAnswer 2 .1 2 999 = -13");
        Document.says("INVALID_ARGUMENT if an argument is out of range.");
        Ranges.together("viewAnswer");
    }

    private static void zoneFor() {
        Document.promise(19);
        Document.says("Returns the zone that is responsible for a name in a view at a tick.");
        ViewedNames x = fresh(ZONES);
        run(x, "zoneFor 0 .1 0 = 0", "zoneFor 0 .12 0 = 0", "zoneFor 1 .1 0 = 0",
                "zoneFor 1 .12 0 = 2", "zoneFor 1 .124 0 = 2", "zoneFor 1 .13 0 = 0",
                "zoneFor 2 .1 0 = 1", "zoneFor 2 .12 0 = 1", "zoneFor 3 .12 0 = 0",
                "zoneFor 2 .444 0 = -4", "zoneFor 0 .14 0 = 0", "zoneFor 0 .144 0 = 0");
        Document.says("`view`: 0 to 3");
        Ranges.argument("zoneFor", 0);
        run(x, "zoneFor -1 .1 0 = -1", "zoneFor 4 .1 0 = -1", "zoneFor 3 .1 0 = 0");
        Document.says("`name`: a name");
        Ranges.argument("zoneFor", 1);
        run(x, "zoneFor 0 0 0 = -1", "zoneFor 0 125 0 = -1", "zoneFor 0 26 0 = -1");
        Document.says("`tick`: 0 to T");
        Ranges.argument("zoneFor", 2);
        run(x, "zoneFor 0 .1 -1 = -1", "zoneFor 0 .1 1 = -1");
        Document.says("Returns the number of the zone;");
        // A zone is responsible even if it has no records, and the apex is a name of its own.
        fresh("addZone 0 .3 = 0", "addZone 0 .33 = 1", "addZone 0 .333 = 2", "zoneFor 0 .333 0 = 2",
                "zoneFor 0 .33 0 = 1", "zoneFor 0 .332 0 = 1", "zoneFor 0 .3 0 = 0",
                "zoneFor 0 .34 0 = 0", "pass 1 = 1", "removeZone 1 = 0", "zoneFor 0 .332 1 = 0",
                "zoneFor 0 .332 0 = 1", "addZone 0 .33 = 3", "zoneFor 0 .332 1 = 3");
        Document.says("INVALID_ARGUMENT if an argument is out of range;");
        Ranges.together("zoneFor");
        Document.says("NOT_FOUND if there is none.");
        fresh("zoneFor 0 .1 0 = -4", "pass 1 = 1", "addZone 1 .12 = 0", "zoneFor 0 .12 1 = -4",
                "zoneFor 1 .1 1 = -4", "zoneFor 1 .12 0 = -4", "zoneFor 1 .12 1 = 0",
                "removeZone 0 = 0", "zoneFor 1 .12 1 = -4");
    }

    private static void source() {
        Document.promise(20);
        Document.says("Returns the name whose record gives the answer, behind all aliases; a "
                + "pattern, if it stands for the name.");
        ViewedNames x = fresh("addZone 0 .1 = 0", "addZone 1 .2 = 1", "set 0 .11 1 .12 = 1",
                "set 0 .12 1 .131 = 2", "set 0 .134 1 .23 = 3", "set 1 .24 0 9 = 1",
                "source 1 .11 0 0 = .24", "source 1 .131 0 0 = .24", "source 1 .23 0 0 = .24",
                "source 1 .24 0 0 = .24", "source 1 .11 1 0 = .11", "source 1 .131 1 0 = .134",
                "source 1 .133 1 0 = .134");
        Document.says("`view`: 0 to 3");
        Ranges.argument("source", 0);
        run(x, "source 0 .11 0 0 = -4", "source 4 .11 0 0 = -1", "source -1 .11 0 0 = -1");
        Document.says("`name`: a name");
        Ranges.argument("source", 1);
        run(x, "source 0 0 0 0 = -1", "source 0 .444 0 0 = -4", "source 0 125 0 0 = -1");
        Document.says("`type`: 0 to 2");
        Ranges.argument("source", 2);
        run(x, "source 0 .11 -1 0 = -1", "source 0 .11 3 0 = -1", "source 1 .11 2 0 = -4");
        Document.says("`tick`: 0 to T");
        Ranges.argument("source", 3);
        run(x, "source 1 .11 0 1 = -1", "source 1 .11 0 -1 = -1", "pass 1 = 1",
                "set 0 .12 0 5 = 4", "source 1 .11 0 1 = .12", "source 1 .11 0 0 = .24");
        Document.says("Returns the name;");
        // A record of value 0 is an answer, too.
        fresh("addZone 0 .1 = 0", "set 0 .1 0 0 = 1", "set 0 .144 2 0 = 2", "source 0 .1 0 0 = .1",
                "source 0 .144 2 0 = .144", "source 0 .143 2 0 = .144");
        Document.says("INVALID_ARGUMENT if an argument is out of range;");
        Ranges.together("source");
        Document.says("NOT_FOUND if the answer is no value.");
        fresh("source 0 .1 0 0 = -4", "addZone 0 .1 = 0", "source 0 .1 0 0 = -4",
                "set 0 .11 0 1 = 1", "source 0 .1 0 0 = -4", "source 0 .11 2 0 = -4",
                "set 0 .1 1 .1 = 2", "source 0 .1 0 0 = -4", "source 0 .1 1 0 = .1",
                "set 0 .1 1 .2 = 2", "source 0 .1 0 0 = -4");
    }

    private static void differences() {
        Document.promise(21);
        Document.says("Counts the names (patterns, too) for which the answers for a view at two "
                + "ticks are different.");
        ViewedNames x = fresh("pass 1 = 1", "addZone 1 .1 = 0", "pass 1 = 2", "set 0 .14 0 5 = 1",
                "pass 1 = 3", "clear 0 .14 0 = 5", "pass 1 = 4", "set 0 .144 0 6 = 1",
                "differences 1 0 0 1 = 21", "differences 1 0 1 2 = 5", "differences 1 0 1 3 = 0",
                "differences 1 0 3 4 = 9", "differences 1 2 3 4 = 9", "differences 0 0 0 4 = 0",
                "differences 1 0 0 0 = 0", "differences 1 0 4 4 = 0");
        Document.says("`view`: 0 to 3");
        Ranges.argument("differences", 0);
        run(x, "differences -1 0 0 0 = -1", "differences 4 0 0 0 = -1", "differences 3 0 0 0 = 0");
        Document.says("`type`: 0 to 2");
        Ranges.argument("differences", 1);
        run(x, "differences 1 1 1 2 = 5", "differences 1 3 1 2 = -1", "differences 1 -1 1 2 = -1");
        Document.says("`one`: 0 to T");
        Ranges.argument("differences", 2);
        run(x, "differences 1 0 -1 0 = -1", "differences 1 0 5 0 = -1", "differences 1 0 4 0 = 21");
        Document.says("`other`: 0 to T");
        Ranges.argument("differences", 3);
        run(x, "differences 1 0 0 -1 = -1", "differences 1 0 0 5 = -1", "differences 1 0 0 4 = 21");
        Document.says("Returns the number of names;");
        fresh("pass 1 = 1", "differences 0 0 0 1 = 0", "addZone 0 .333 = 0",
                "differences 0 0 0 1 = 1", "addZone 0 .1 = 1", "differences 0 0 0 1 = 22",
                "addZone 0 .12 = 2", "differences 0 0 0 1 = 22", "addZone 0 .2 = 3",
                "addZone 0 .3 = 4", "addZone 0 .41 = 5", "addZone 0 .42 = 6", "addZone 0 .43 = 7",
                "addZone 0 .441 = 8", "addZone 0 .443 = 9", "differences 0 0 0 1 = 80");
        Document.says("INVALID_ARGUMENT if an argument is out of range.");
        Ranges.together("differences");
    }

    private static void difference() {
        Document.promise(22);
        Document.says("Returns a name (patterns, too) for which the answers for a view at two ticks "
                + "are different.");
        ViewedNames x = fresh("pass 1 = 1", "addZone 1 .1 = 0", "set 0 .14 0 5 = 1");
        List<Integer> at = new ArrayList<>();
        for (String name : allNames()) {
            if (name.startsWith("1")) {
                at.add(n(name));
            }
        }
        for (int index = 0; index < at.size(); index++) {
            Due.is("index " + index, x.difference(1, 0, 0, 1, index), at.get(index));
            Due.is("back, index " + index, x.difference(1, 0, 1, 0, index), at.get(index));
        }
        run(x, "difference 1 0 0 1 21 = -4", "difference 1 0 0 1 4 = .14");
        Document.says("`view`: 0 to 3");
        Ranges.argument("difference", 0);
        run(x, "difference 0 0 0 1 0 = -4", "difference 3 0 0 1 0 = -4", "difference 4 0 0 1 0 = -1");
        Document.says("`type`: 0 to 2");
        Ranges.argument("difference", 1);
        run(x, "difference 1 2 0 1 0 = .1", "difference 1 3 0 1 0 = -1", "difference 1 -1 0 1 0 = -1");
        Document.says("`one`: 0 to T");
        Ranges.argument("difference", 2);
        run(x, "difference 1 0 2 0 0 = -1", "difference 1 0 -1 0 0 = -1");
        Document.says("`other`: 0 to T");
        Ranges.argument("difference", 3);
        run(x, "difference 1 0 0 2 0 = -1", "difference 1 0 0 -1 0 = -1");
        Document.says("`index`: 0 for the lowest one, and so on");
        Ranges.argument("difference", 4);
        // By their numbers, in which the last label counts most.
        fresh("pass 1 = 1", "addZone 0 .443 = 0", "addZone 0 .13 = 1", "addZone 0 .31 = 2",
                "difference 0 0 0 1 0 = .31", "difference 0 0 0 1 1 = .13",
                "difference 0 0 0 1 2 = .311", "difference 0 0 0 1 3 = .131",
                "difference 0 0 0 1 8 = .443", "difference 0 0 0 1 9 = .314",
                "difference 0 0 0 1 10 = .134", "difference 0 0 0 1 11 = -4");
        Document.says("Returns the name;");
        Due.is("the only one", fresh("pass 1 = 1", "addZone 2 .111 = 0").difference(2, 0, 0, 1, 0),
                n("111"));
        Document.says("INVALID_ARGUMENT if an argument is out of range (index negative);");
        Ranges.together("difference");
        run(x, "difference 1 0 0 1 -1 = -1", "difference 1 0 0 1 -2147483648 = -1");
        Document.says("NOT_FOUND if there are not so many.");
        run(x, "difference 1 0 0 1 20 = .144", "difference 1 0 0 1 21 = -4",
                "difference 1 0 0 1 84 = -4", "difference 1 0 0 1 2147483647 = -4",
                "difference 1 0 1 1 0 = -4", "difference 1 0 0 0 0 = -4");
    }

    private static void split() {
        Document.promise(23);
        Document.says("Counts the names (patterns, too) for which the answers for two views at a "
                + "tick are different.");
        ViewedNames x = fresh("addZone 0 .1 = 0", "addZone 1 .1 = 1", "addZone 2 .12 = 2",
                "split 0 1 0 0 = 0", "pass 1 = 1", "set 0 .14 0 5 = 1", "split 0 1 0 1 = 5",
                "split 1 0 0 1 = 5", "split 0 2 0 1 = 1", "split 1 2 0 1 = 4", "split 0 3 0 1 = 0",
                "split 1 1 0 1 = 0", "split 0 1 0 0 = 0");
        Document.says("`view`: 0 to 3");
        Ranges.argument("split", 0);
        run(x, "split -1 0 0 0 = -1", "split 4 0 0 0 = -1", "split 3 1 0 1 = 5");
        Document.says("`other`: 0 to 3");
        Ranges.argument("split", 1);
        run(x, "split 0 -1 0 0 = -1", "split 0 4 0 0 = -1", "split 1 3 0 1 = 5");
        Document.says("`type`: 0 to 2");
        Ranges.argument("split", 2);
        run(x, "split 0 1 1 1 = 5", "split 0 1 2 1 = 5", "split 0 1 3 1 = -1", "split 0 1 -1 1 = -1");
        Document.says("`tick`: 0 to T");
        Ranges.argument("split", 3);
        run(x, "split 0 1 0 2 = -1", "split 0 1 0 -1 = -1", "split 0 0 0 2 = -1");
        Document.says("Returns the number of names;");
        fresh("split 0 1 0 0 = 0", "addZone 1 .1 = 0", "addZone 1 .2 = 1", "addZone 1 .3 = 2",
                "split 1 0 0 0 = 63", "split 1 2 0 0 = 63", "split 2 3 0 0 = 0",
                "addZone 2 .441 = 3", "split 1 2 0 0 = 64", "split 2 0 0 0 = 1");
        Document.says("INVALID_ARGUMENT if an argument is out of range.");
        Ranges.together("split");
    }

    private static void since() {
        Document.promise(24);
        Document.says("Returns the least tick from which on, up to T, the answer for a view was the "
                + "same at all ticks.");
        ViewedNames x = fresh("since 0 .1 0 = 0", "pass 5 = 5", "since 0 .1 0 = 0",
                "addZone 1 .1 = 0", "since 1 .1 0 = 5", "since 0 .1 0 = 0", "pass 5 = 10",
                "since 1 .1 0 = 5", "set 0 .1 0 7 = 1", "since 1 .1 0 = 10", "since 1 .1 2 = 10",
                "since 1 .11 0 = 5", "pass 5 = 15", "set 0 .1 0 7 = 1", "since 1 .1 0 = 10",
                "set 0 .1 0 8 = 1", "set 0 .1 0 7 = 1", "since 1 .1 0 = 10", "clear 0 .1 0 = 7",
                "since 1 .1 0 = 15", "set 0 .1 0 7 = 1", "since 1 .1 0 = 10", "pass 5 = 20",
                "set 0 .1 0 8 = 1", "pass 1 = 21", "set 0 .1 0 7 = 1", "pass 1 = 22",
                "since 1 .1 0 = 21", "removeZone 0 = 1", "since 1 .1 0 = 22", "addZone 1 .1 = 1",
                "since 1 .1 0 = 22", "set 1 .1 0 7 = 1", "since 1 .1 0 = 21");
        Document.says("`view`: 0 to 3");
        Ranges.argument("since", 0);
        run(x, "since -1 .1 0 = -1", "since 4 .1 0 = -1", "since 3 .1 0 = 0");
        Document.says("`name`: a name");
        Ranges.argument("since", 1);
        run(x, "since 1 0 0 = -1", "since 1 125 0 = -1", "since 1 .444 0 = 0");
        Document.says("`type`: 0 to 2");
        Ranges.argument("since", 2);
        run(x, "since 1 .1 -1 = -1", "since 1 .1 3 = -1");
        Document.says("Returns the tick;");
        ViewedNames y = new ViewedNames();
        passTo(y, 9999);
        run(y, "since 0 .1 0 = 0", "addZone 0 .1 = 0", "since 0 .1 0 = 9999", "removeZone 0 = 0",
                "since 0 .1 0 = 0");
        ViewedNames z = fresh("addZone 0 .1 = 0", "pass 1 = 1", "set 0 .1 0 1 = 1");
        passTo(z, 9999);
        run(z, "since 0 .1 0 = 1", "since 0 .11 0 = 0", "set 0 .1 0 2 = 1", "since 0 .1 0 = 9999");
        // By what is behind an alias or stands in a zone that hides another one.
        fresh("addZone 0 .1 = 0", "addZone 0 .2 = 1", "set 0 .1 1 .2 = 1", "pass 1 = 1",
                "set 1 .2 0 5 = 1", "pass 1 = 2", "addZone 3 .2 = 2", "pass 1 = 3",
                "since 0 .1 0 = 1", "since 3 .1 0 = 2", "since 3 .1 1 = 0", "removeZone 2 = 0",
                "since 3 .1 0 = 3");
        Document.says("INVALID_ARGUMENT if an argument is out of range.");
        Ranges.together("since");
    }

    private static void seenBy() {
        Document.promise(25);
        Document.says("Counts the addresses that get a certain answer at a tick.");
        ViewedNames x = fresh(ZONES);
        run(x, "addNet 2 0 8 = 0", "addNet 2 128 2 = 1", "addNet 1 128 1 = 2", "pass 1 = 1",
                "removeNet 0 = 2", "addNet 2 255 8 = 3", "pass 1 = 2", "seenBy .1 0 20 0 = 65",
                "seenBy .1 0 20 1 = 65", "removeNet 1 = 2", "seenBy .1 0 20 2 = 1",
                "seenBy .1 0 10 2 = 255", "seenBy .123 0 30 0 = 64", "seenBy .123 0 30 2 = 127",
                "seenBy .123 0 -12 0 = 192");
        Document.says("`name`: a name");
        Ranges.argument("seenBy", 0);
        run(x, "seenBy 0 0 10 0 = -1", "seenBy 125 0 10 0 = -1", "seenBy .444 0 -11 0 = 256");
        Document.says("`type`: 0 to 2");
        Ranges.argument("seenBy", 1);
        run(x, "seenBy .1 -1 10 0 = -1", "seenBy .1 3 10 0 = -1");
        Document.says("`answer`: the answer");
        Ranges.argument("seenBy", 2);
        run(x, "seenBy .1 0 -1 0 = 0", "seenBy .1 0 2147483647 0 = 0",
                "seenBy .1 0 -2147483648 0 = 0", "seenBy .1 0 1000 0 = 0", "seenBy .1 0 -4 0 = 0",
                "seenBy .2 0 -11 2 = 256", "seenBy .11 0 -13 0 = 191", "seenBy .111 0 -12 2 = 256",
                "set 0 .1 1 .1 = 5", "seenBy .1 2 -14 2 = 255", "set 0 .1 0 0 = 5",
                "seenBy .1 0 0 2 = 255");
        Document.says("`tick`: 0 to T");
        Ranges.argument("seenBy", 3);
        run(x, "seenBy .1 0 10 3 = -1", "seenBy .1 0 10 -1 = -1");
        Document.says("Returns the number of addresses;");
        fresh("seenBy .1 0 -11 0 = 256", "addNet 1 0 1 = 0", "addNet 2 0 1 = 1",
                "addZone 1 .1 = 0", "seenBy .1 0 -12 0 = 128", "addZone 2 .1 = 1",
                "seenBy .1 0 -12 0 = 128", "addNet 1 255 1 = 2", "seenBy .1 0 -12 0 = 256",
                "seenBy .1 0 -11 0 = 0");
        // An answer that each view gives to its own addresses.
        fresh("addNet 1 0 2 = 0", "addNet 2 64 3 = 1", "addNet 3 128 4 = 2", "addZone 0 .1 = 0",
                "addZone 1 .1 = 1", "addZone 2 .1 = 2", "addZone 3 .1 = 3", "set 0 .1 0 5 = 1",
                "set 1 .1 0 6 = 1", "set 2 .1 0 7 = 1", "set 3 .1 0 8 = 1", "seenBy .1 0 5 0 = 144",
                "seenBy .1 0 6 0 = 64", "seenBy .1 0 7 0 = 32", "seenBy .1 0 8 0 = 16",
                "set 3 .1 0 5 = 1", "seenBy .1 0 5 0 = 160", "seenBy .1 0 8 0 = 0");
        Document.says("INVALID_ARGUMENT if name, type or tick is out of range.");
        Ranges.together("seenBy");
    }
}

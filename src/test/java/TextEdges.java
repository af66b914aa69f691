import java.util.regex.Matcher;
import java.util.regex.Pattern;

/** The sentences about texts: in the description, and the promises 29 to 31. */
final class TextEdges extends Setting {
    /** The form of a change, as the description tells it. */
    private static final Pattern CHANGE = Pattern.compile("[1-4]{1,3}:(0=([01]?[0-9]?[0-9]"
            + "|2[0-4][0-9]|25[0-5])|1=[1-4]{1,3}|2=[0-9]{1,3}|[0-2]-);");
    private static final String[] RIGHT = {
        "1:0=1;", "4:0=255;", "12:0=049;", "444:0=200;", "1:1=1;", "123:1=432;", "14:1=44;",
        "1:2=0;", "2:2=999;", "3:2=007;", "1:0-;", "34:1-;", "111:2-;"};

    private TextEdges() {
    }

    static void check() {
        text();
        form();
        values();
        fault();
        typed();
        clearText();
        promisedFault();
    }

    private static int faultOf(String text) {
        ViewedNames x = new ViewedNames();
        write(x, text);
        return x.fault();
    }

    private static void faultIs(String text, int want) {
        Due.is("fault of " + text, faultOf(text), want);
    }

    /** Told by the form alone. */
    private static int faultByForm(String text) {
        Matcher m = CHANGE.matcher(text);
        int start = 0;
        while (start < text.length()) {
            m.region(start, text.length());
            if (!m.lookingAt()) {
                return start;
            }
            start = m.end();
        }
        return NOT_FOUND;
    }

    private static void text() {
        Document.head("Description");
        Document.says("There is a text of at most 60 characters, initially empty:");
        ViewedNames x = fresh("clearText = 0", "fault = -4");
        for (int length = 1; length <= 60; length++) {
            Due.is("length", x.type('1'), length);
        }
        run(x, "type 49 = -3", "fault = 0", "clearText = 60", "clearText = 0", "type 49 = 1");
    }

    private static void form() {
        Document.says("a sequence of changes, each followed by \";\": the labels of a name (1 to 3 "
                + "digits from 1 to 4), \":\", the digit of a type, and");
        for (String name : allNames()) {
            for (int type = 0; type <= 2; type++) {
                faultIs(name + ":" + type + "=1;", NOT_FOUND);
                faultIs(name + ":" + type + "-;", NOT_FOUND);
                faultIs(name + ":" + type + "=1", 0);
                faultIs(name + ":" + type + "-", 0);
            }
        }
        String[] wrong = {":0=1;", "1111:0=1;", "0:0=1;", "5:0=1;", "10:0=1;", "01:0=1;", "15:0=1;",
            "110:0=1;", "115:0=1;", "1:3=1;", "1:9=1;", "1:=1;", "1:00=1;", "1:12=1;", "1:/=1;",
            "1:a=1;", "10=1;", "1::0=1;", "1;0=1;", "1:0=1:", "1:0=1,", "1:0;", "1:0=1;;", ";"};
        for (String change : wrong) {
            faultIs(change, change.equals("1:0=1;;") ? 6 : 0);
        }
        // Names and types are read as they are written: the first label first.
        ViewedNames x = fresh("addZone 0 .3 = 0");
        write(x, "3:0=1;34:1=12;312:2=3;");
        run(x, "lay 0 = 3", "change 0 0 1 = .3", "change 0 1 1 = .34", "change 0 2 1 = .312",
                "change 0 0 2 = 0", "change 0 1 2 = 1", "change 0 2 2 = 2", "change 0 1 3 = .12");

        // Each right change with one character of any kind in place of one, more, or less.
        for (String right : RIGHT) {
            faultIs(right, NOT_FOUND);
            for (int at = 0; at <= right.length(); at++) {
                String before = right.substring(0, at);
                String behind = right.substring(Math.min(at + 1, right.length()));
                likeTheForm(before + behind);
                for (char c = 32; c <= 126; c++) {
                    likeTheForm(before + c + behind);
                    likeTheForm(before + c + right.substring(at));
                }
            }
        }
    }

    private static void likeTheForm(String text) {
        faultIs(text, faultByForm(text));
        faultIs("2:0-;" + text + "3:2=100;", faultByForm("2:0-;" + text + "3:2=100;"));
    }

    private static void values() {
        Document.says("\"=\" and a value (for an alias the labels of a name, otherwise 1 to 3 digits, "
                + "also with zeros ahead, not more than 255 for an address), or \"-\" to remove a "
                + "record.");
        for (int value = 0; value <= 1100; value++) {
            String plain = "" + value;
            for (String digits = plain; digits.length() <= 4; digits = "0" + digits) {
                boolean isShort = digits.length() <= 3;
                valueIs(0, digits, isShort && value <= 255 ? value : INVALID);
                valueIs(2, digits, isShort ? value : INVALID);
                boolean isName = digits.matches("[1-4]{1,3}");
                valueIs(1, digits, isName ? n(digits) : INVALID);
            }
        }
        String[] wrong = {"1:0=;", "1:1=;", "1:2=;", "1:0=-1;", "1:2=-1;", "1:2=+1;", "1:2= 1;",
            "1:2=1 ;", "1:0=0x1;", "1:0-1;", "1:0--;", "1:0=-;", "1:0-=1;", "1:0==1;", "1:01;",
            "1:0+1;", "1:1=1111;", "1:1=0;", "1:1=5;", "1:1=10;", "1:1=01;", "1:1=151;"};
        for (String change : wrong) {
            faultIs(change, 0);
        }
        ViewedNames x = fresh("addZone 0 .1 = 0", "set 0 .1 0 5 = 1", "set 0 .1 2 6 = 2");
        write(x, "1:0-;");
        run(x, "lay 0 = 1", "record 0 .1 0 0 = -4", "record 0 .1 2 0 = 6", "change 0 2 3 = -1");
    }

    /** The value that a change sets, or that the digits are none. */
    private static void valueIs(int type, String digits, int want) {
        ViewedNames x = new ViewedNames();
        x.addZone(0, n("1"));
        write(x, "1:" + type + "=" + digits + ";");
        Due.is("fault of " + digits, x.fault(), want == INVALID ? 0 : NOT_FOUND);
        Due.is("lay " + digits, x.lay(0), want == INVALID ? NOT_POSSIBLE : 1);
        Due.is("type " + type + " " + digits, x.record(0, n("1"), type, 0),
                want == INVALID ? NOT_FOUND : want);
    }

    private static void fault() {
        Document.says("The fault of the text is the position, from 0, of the first character of the "
                + "first change that is not of this form.");
        String[] wrong = {"1", "x;", ";", "1:0=1", "1:0=256;", "1:3-;", "1111:0-;"};
        for (String change : wrong) {
            String before = "";
            for (int i = 0; i <= 9; i++) {
                faultIs(before + change, before.length());
                faultIs(before + change + "1:0", before.length());
                before += i % 2 == 0 ? "1:0-;" : "1:2=5;";
            }
        }
        // The first of two, and the last place in a text that is full.
        faultIs("1:0-;1:3-;1:4-;", 5);
        faultIs("1:3-;1:0-;", 0);
        faultIs(State.FULL_TEXT, NOT_FOUND);
        faultIs(State.FULL_TEXT.substring(0, 59), 55);
        faultIs(State.FULL_TEXT.substring(0, 55) + "1:0=1", 55);
        faultIs(State.FULL_TEXT.substring(0, 54) + "x1:0-;", 50);
        faultIs("123:2=999;".repeat(6), NOT_FOUND);
        faultIs("123:2=999;".repeat(5) + "123:0=999;", 50);
        faultIs("1:0-;".repeat(11) + "1:0-x", 55);
    }

    private static void typed() {
        Document.promise(29);
        Document.says("Appends a character to the text.");
        ViewedNames x = fresh("type 49 = 1", "fault = 0", "type 58 = 2", "fault = 0", "type 48 = 3",
                "type 45 = 4", "fault = 0", "type 59 = 5", "fault = -4", "type 59 = 6", "fault = 5");
        Document.says("`character`: 32 to 126");
        Ranges.argument("type", 0);
        run(x, "type 31 = -1", "type 32 = 7", "type 126 = 8", "type 127 = -1");
        Document.says("Returns the length of the text;");
        ViewedNames y = new ViewedNames();
        for (int length = 1; length <= 60; length++) {
            Due.is("length", y.type(32 + length), length);
        }
        run(y, "clearText = 60", "type 33 = 1");
        Document.says("INVALID_ARGUMENT if character is out of range;");
        fresh("type 31 = -1", "type 127 = -1", "type 0 = -1", "type -1 = -1", "type 305 = -1",
                "type 65585 = -1", "type 2147483647 = -1", "type -2147483648 = -1", "clearText = 0");
        Document.says("LIMIT_REACHED if it has 60 characters.");
        ViewedNames z = new ViewedNames();
        write(z, State.FULL_TEXT.substring(0, 59));
        run(z, "type 59 = 60", "type 49 = -3", "fault = -4", "type 31 = -1", "type 127 = -1",
                "type 32 = -3", "fault = -4", "clearText = 60", "type 49 = 1");
    }

    private static void clearText() {
        Document.promise(30);
        Document.says("Empties the text.");
        fresh("type 120 = 1", "fault = 0", "clearText = 1", "fault = -4", "type 49 = 1",
                "type 58 = 2", "clearText = 2", "fault = -4", "addZone 0 .1 = 0", "lay 0 = 0");
        // Nothing of the text before is left behind.
        ViewedNames x = fresh("addZone 0 .1 = 0");
        write(x, "1:0=5;1:2=7;");
        run(x, "fault = -4", "clearText = 12", "type 49 = 1", "fault = 0", "lay 0 = -2",
                "clearText = 1", "lay 0 = 0", "count 3 = 0");
        Document.says("Returns the length it had.");
        fresh("clearText = 0", "clearText = 0", "type 49 = 1", "clearText = 1", "clearText = 0",
                "type 31 = -1", "clearText = 0");
        ViewedNames y = new ViewedNames();
        write(y, State.FULL_TEXT);
        run(y, "type 49 = -3", "clearText = 60", "clearText = 0");
    }

    private static void promisedFault() {
        Document.promise(31);
        Document.says("Returns the fault of the text;");
        faultIs("x", 0);
        faultIs("1:0=1;x", 6);
        faultIs("1:0=1;2:1=1;1", 12);
        Document.says("NOT_FOUND if it has none (also if it is empty).");
        fresh("fault = -4", "fault = -4", "type 32 = 1", "fault = 0", "clearText = 1", "fault = -4");
        faultIs("1:0=1;", NOT_FOUND);
        faultIs("1:0=1;2:1-;444:2=999;", NOT_FOUND);
    }
}

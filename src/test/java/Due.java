/** Compares answers with those that are due, and tells the wrong ones. */
final class Due {
    private static int checked = 0;
    private static int wrong = 0;
    private static String about = "";

    private Due() {
    }

    /** The sentence of the document that the checks from here on are about. */
    static void about(String sentence) {
        about = "[" + sentence + "] ";
    }

    static void is(String call, long got, long want) {
        checked++;
        if (got != want) {
            tell(call + " answered " + got + ", due is " + want);
        }
    }

    static void holds(String what, boolean condition) {
        checked++;
        if (!condition) {
            tell(what);
        }
    }

    static int wrong() {
        return wrong;
    }

    static int checked() {
        return checked;
    }

    private static void tell(String what) {
        wrong++;
        if (wrong <= 50) {
            System.out.println(about + what);
        }
    }

    static void end() {
        System.out.println(wrong + " of " + checked + " answers are wrong");
        System.exit(wrong == 0 && checked > 0 ? 0 : 1);
    }
}

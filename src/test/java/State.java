/**
 * Three states in which the tests make calls. In all of them the apexes are
 * 1, 11 and 111, so that the name 111 is at each of them.
 */
enum State {
    NEW(0, 0), ORDINARY(3, 4, "1", "1", "11", "111"),
    FULL(10, 10, "1", "1", "1", "1", "11", "11", "11", "11", "111", "111");

    /** Of 60 characters, with twelve changes. */
    static final String FULL_TEXT = "1:0-;".repeat(12);

    final int nets;
    final int zones;
    private final String[] apexes;

    State(int nets, int zones, String... apexes) {
        this.nets = nets;
        this.zones = zones;
        this.apexes = apexes;
    }

    String apex(int zone) {
        return apexes[zone];
    }

    int time() {
        return this == NEW ? 0 : this == ORDINARY ? 7 : 9999;
    }

    ViewedNames build() {
        ViewedNames x = new ViewedNames();
        if (this == ORDINARY) {
            buildOrdinary(x);
        } else if (this == FULL) {
            buildFull(x);
        }
        return x;
    }

    private static void addText(ViewedNames x, String text) {
        for (int i = 0; i < text.length(); i++) {
            x.type(text.charAt(i));
        }
    }

    /** The net 1 and the zone 2 are not there any more. */
    private void buildOrdinary(ViewedNames x) {
        x.addNet(1, 0, 1);
        x.addNet(2, 64, 2);
        x.addNet(3, 128, 1);
        for (int zone = 0; zone < zones; zone++) {
            x.addZone(zone % 3, Setting.n(apexes[zone]));
        }
        x.set(0, Setting.n("1"), 0, 10);
        x.set(0, Setting.n("12"), 1, Setting.n("111"));
        x.set(0, Setting.n("14"), 2, 500);
        x.set(1, Setting.n("1"), 0, 20);
        x.set(2, Setting.n("112"), 0, 30);
        x.set(3, Setting.n("111"), 0, 40);
        x.ask(0, Setting.n("1"), 0);
        x.pass(3);
        x.clear(0, Setting.n("14"), 2);
        x.set(0, Setting.n("1"), 0, 11);
        x.removeNet(1);
        x.removeZone(2);
        x.ask(200, Setting.n("1"), 0);
        x.ask(255, Setting.n("12"), 0);
        x.pass(4);
        x.setKeeping(5);
        x.set(0, Setting.n("1"), 0, 12);
        x.ask(0, Setting.n("111"), 0);
        x.ask(200, Setting.n("1"), 0);
        addText(x, "1:0=5;13:1=2;1:2-;");
    }

    /** All limits are reached; the net 9 and the zone 9 are not there any more. */
    private void buildFull(ViewedNames x) {
        for (int i = 0; i < 10; i++) {
            x.addNet(i % 3 + 1, 25 * i, i % 8 + 1);
            x.addZone(i % 4, Setting.n(apexes[i]));
            x.set(i, Setting.n("111"), 0, i);
        }
        x.pass(1000);
        for (int i = 0; i < 59; i++) {
            x.set(i % 7, Setting.n("111"), i % 2 * 2, i);
        }
        x.clear(0, Setting.n("111"), 2);
        for (int i = 0; i < 8; i++) {
            x.pass(1000);
        }
        for (int i = 0; i < 6; i++) {
            x.ask(40 * i, Setting.n("111"), i % 3);
        }
        x.pass(999);
        x.removeNet(9);
        x.removeZone(9);
        addText(x, FULL_TEXT);
    }
}

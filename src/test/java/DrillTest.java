/** Promises 8 to 13. */
public final class DrillTest {
    private static final Due DUE = new Due("DrillTest");

    public static void main(String[] args) {
        texts();
        firstFaults();
        refusals();
        anUntakenTextChangesNothing();
        ofItem();
        ofDrill();
        seconds();
        tired();
        glazed();
        slips();
        sand();
        embers();
        comes();
        states();
        DUE.end();
    }

    private static void texts() {
        EmberDrill x = new EmberDrill();
        DUE.is("one", 1, Due.drill(x, "h;s"));
        DUE.is("edges of seconds", 4, Due.drill(x, "b;p1101;p9960;r01;r60"));
        DUE.is("eight", 8, Due.drill(x, "h;p1110;p1110;p1110;p1110;p1110;p1110;p1110;p1110"));
        DUE.is("items", 8, x.many(1));
    }

    private static void firstFaults() {
        EmberDrill x = new EmberDrill();
        Object[][] due = {
            {"", 0}, {"x", 0}, {"h", 1}, {"b", 1}, {"H;s", 0}, {"hh", 1}, {"b;", 2}, {"h;x", 2}, {"h;;", 2},
            {"h;p", 3}, {"h;p0", 3}, {"h;px", 3}, {"h;p1", 4}, {"h;p10", 4}, {"h;p11", 5}, {"h;p110", 6},
            {"h;p11x", 5}, {"h;p111x", 6}, {"h;p1100", 5}, {"h;p1161", 5}, {"h;p1169", 5}, {"h;p1170", 5},
            {"h;p1199", 5}, {"h;p117", 5}, {"h;p117x", 5}, {"h;p116x", 6}, {"h;p116", 6}, {"h;p1160x", 7},
            {"h;p1160;", 8}, {"h;r", 3}, {"h;r0", 4}, {"h;r00", 3}, {"h;r61", 3}, {"h;r60s", 5}, {"h;rx", 3},
            {"h;sx", 3}, {"h;s;", 4}, {"h;s ", 3}, {"h;s;p11611", 7},
            {"h;s;s;s;s;s;s;s;s;s", 17}, {"h;s;s;s;s;s;s;s;s;", 17}, {"h;s;s;s;s;s;s;s;sx", 17}};
        for (Object[] d : due) {
            DUE.is("drill " + d[0], -100 - (Integer) d[1], Due.drill(x, (String) d[0]));
            DUE.is("fault of " + d[0], 0, x.fault());
        }
        DUE.is("nothing was taken", 0, x.many(1));
    }

    private static void refusals() {
        EmberDrill x = new EmberDrill();
        DUE.is("sheet 4, lane 3", EmberDrill.UNKNOWN, x.drill(4, 3, 0, 0));
        DUE.is("sheet -1", EmberDrill.UNKNOWN, x.drill(-1, 0, 0, 0));
        DUE.is("lane 3", EmberDrill.OUTSIDE, x.drill(0, 3, 0, -1));
        DUE.is("lane -1", EmberDrill.OUTSIDE, x.drill(0, -1, 0, -1));
        DUE.is("nothing", -11, x.drill(0, 1, -1, -1));
        DUE.is("NULL", 1, x.fault());
        Due.row(x, 0, 0, 'h', ';', 's');
        DUE.is("another lane", -12, x.drill(0, 1, -1, -1));
        DUE.is("CAST", 2, x.fault());
        DUE.is("n -1", -14, x.drill(0, 0, -1, -1));
        DUE.is("SIZE", 4, x.fault());
        DUE.is("i -1", -13, x.drill(0, 0, -1, 3));
        DUE.is("INDEX", 3, x.fault());
        DUE.is("beyond", -13, x.drill(0, 0, 1, 3));
        DUE.is("far beyond", -13, x.drill(0, 0, 2, Integer.MAX_VALUE));
        DUE.is("i beyond, none taken", -13, x.drill(0, 0, 4, 0));
        DUE.is("i -1, none taken", -13, x.drill(0, 0, -1, 0));
        DUE.is("none taken at the end", -100, x.drill(0, 0, 3, 0));
        DUE.is("no fault of the machine", 0, x.fault());
        DUE.is("taken", 1, x.drill(0, 0, 0, 3));
        Due.row(x, 1, 1, 7, 'b', ';', 'r', '0', '1', 7);
        DUE.is("from the midst", 1, x.drill(1, 1, 1, 5));
        DUE.is("bow", 1, x.ofDrill(0));
    }

    private static void anUntakenTextChangesNothing() {
        EmberDrill x = Due.dryWoods();
        Due.drill(x, "b;p5910;s");
        x.reading(1, 0, 45);
        DUE.is("untaken", -108, Due.drill(x, "h;r10;s;"));
        DUE.is("items", 2, x.many(1));
        DUE.is("readings", 1, x.many(2));
        DUE.is("bow", 1, x.ofDrill(0));
        DUE.is("seconds", 10, x.ofDrill(1));
        DUE.is("press", 5, x.ofItem(0, 1));
        DUE.is("taken", 1, Due.drill(x, "h;r20"));
        DUE.is("readings are gone", 0, x.many(2));
        DUE.is("no item 1", EmberDrill.UNKNOWN, x.ofItem(1, 0));
    }

    private static void ofItem() {
        EmberDrill x = new EmberDrill();
        Due.drill(x, "h;p3742;s;r09");
        int[][] due = {{0, 3, 7, 42}, {1, 0, 0, 0}, {2, 0, 0, 9}};
        for (int i = 0; i < 3; i++) {
            for (int what = 0; what < 4; what++) DUE.is("item " + i + " " + what, due[i][what], x.ofItem(i, what));
            DUE.is("what 4", EmberDrill.OUTSIDE, x.ofItem(i, 4));
            DUE.is("what -1", EmberDrill.OUTSIDE, x.ofItem(i, -1));
        }
        DUE.is("item 3, what 4", EmberDrill.UNKNOWN, x.ofItem(3, 4));
        DUE.is("item -1", EmberDrill.UNKNOWN, x.ofItem(-1, 0));
    }

    private static void ofDrill() {
        EmberDrill x = new EmberDrill();
        DUE.is("what 2, no drill", EmberDrill.OUTSIDE, x.ofDrill(2));
        DUE.is("no drill", EmberDrill.STATE, x.ofDrill(1));
        Due.drill(x, "h;p1160;r60;s;p1160;r60;p1160;r60;p1159");
        DUE.is("hands", 0, x.ofDrill(0));
        DUE.is("seconds", 419, x.ofDrill(1));
        DUE.is("what -1", EmberDrill.OUTSIDE, x.ofDrill(-1));
        Due.drill(x, "b;s");
        DUE.is("bow", 1, x.ofDrill(0));
        DUE.is("no seconds", 0, x.ofDrill(1));
    }

    private static void shows(EmberDrill x, int second, int... due) {
        String[] names = {"heat", "dust", "water", "glaze", "strength", "slips", "tires"};
        for (int what = 0; what < 7; what++) DUE.is(names[what] + " behind " + second, due[what], x.at(second, what));
    }

    /** Steam takes half of the work; hands go up in the fifth second of all; heat cools by what it was. */
    private static void seconds() {
        EmberDrill x = new EmberDrill();
        x.wood(0, 5, 12, 20);
        x.wood(1, 5, 3, 20);
        x.take(0, 1);
        x.tell(2, 10);
        Due.drill(x, "h;r01;p3705;r02");
        shows(x, 0, 0, 0, 15, 0, 300, 0, 0);
        shows(x, 1, 0, 0, 15, 0, 300, 0, 0);
        shows(x, 2, 1, 0, 5, 0, 290, 0, 0);   // work 21, steam 10, 1 is left
        shows(x, 3, 12, 0, 0, 0, 280, 0, 0);  // 5 of water are left: 11 of work go to heat, 0 cools
        shows(x, 4, 32, 0, 0, 0, 270, 0, 0);  // 12 + 21 - 1
        shows(x, 5, 29, 0, 0, 0, 260, 0, 0);  // the fifth of all: no work
        shows(x, 6, 48, 0, 0, 0, 250, 0, 0);  // 29 + 21 - 2
        shows(x, 7, 44, 0, 0, 0, 253, 0, 0);
        shows(x, 8, 40, 0, 0, 0, 256, 0, 0);
        x.take(1, 1);
        DUE.is("water of the same wood", 6, x.at(0, 2));
        DUE.is("second 9", EmberDrill.OUTSIDE, x.at(9, 0));
        DUE.is("second -1", EmberDrill.OUTSIDE, x.at(-1, 0));
        DUE.is("what 7", EmberDrill.OUTSIDE, x.at(0, 7));
        DUE.is("what -1", EmberDrill.OUTSIDE, x.at(0, -1));
        x.take(0, 1);
        x.tell(2, 0);
        Due.drill(x, "b;p5704");
        shows(x, 1, 5, 0, 0, 0, 288, 0, 0);   // 15 of water, 30 of 35
        DUE.is("no heat is lost", 75, x.at(3, 0));
        DUE.is("no dust below 100", 0, x.at(3, 1));
        DUE.is("dust by 2 and twice 2", 6, x.at(4, 1));
    }

    private static void tired() {
        EmberDrill x = Due.dryWoods();
        x.take(0, 0);
        x.tell(0, 20);
        x.tell(2, 10);
        Due.drill(x, "b;p5510;r03");
        shows(x, 1, 25, 0, 0, 0, 10, 0, 0);
        shows(x, 2, 48, 0, 0, 0, 0, 0, 0);    // just as strong as it takes
        shows(x, 3, 44, 0, 0, 0, 3, 0, 1);
        shows(x, 6, 33, 0, 0, 0, 12, 0, 4);    // 44, 40, 36, 33
        shows(x, 7, 55, 0, 0, 0, 2, 0, 4);
        x.tell(0, 12);
        Due.drill(x, "b;p1101;r05");
        DUE.is("arms at most", 12, x.at(2, 4));
        DUE.is("arms at most", 12, x.at(6, 4));
        x.tell(0, 0);
        DUE.is("no strength", 0, x.at(1, 4));
        DUE.is("tires", 1, x.at(1, 6));
        Due.drill(x, "b;p9903");
        DUE.is("it tires, so the string does not slip", 0, x.at(3, 5));
        DUE.is("nor is it glazed", 0, x.at(3, 3));
    }

    private static void glazed() {
        EmberDrill x = Due.dryWoods();
        x.take(0, 0);
        x.tell(2, 0);
        Due.drill(x, "b;p5207");
        DUE.is("glaze", 5, x.at(5, 3));
        DUE.is("heat ahead of it", 50, x.at(5, 0));
        DUE.is("work by 2", 55, x.at(6, 0));
        DUE.is("glaze goes on", 7, x.at(7, 3));
        Due.drill(x, "b;p4207");
        DUE.is("just twice", 0, x.at(7, 3));
        Due.drill(x, "h;p9105");
        DUE.is("glaze without work", 5, x.at(5, 3));
        DUE.is("36 of work", 36, x.at(5, 0));
        Due.drill(x, "h;p9108");
        DUE.is("9 by 2 is 4", 48, x.at(8, 0));
    }

    private static void slips() {
        EmberDrill x = Due.dryWoods();
        x.take(0, 0);
        x.tell(2, 0);
        Due.drill(x, "b;p6902;p7903");
        DUE.is("grip as hard as the press", 108, x.at(2, 0));
        DUE.is("no slip", 0, x.at(2, 5));
        DUE.is("slips", 3, x.at(5, 5));
        DUE.is("no heat by it", 108, x.at(5, 0));
        DUE.is("strength goes", 300 - 30 - 48, x.at(5, 4));
        DUE.is("dust comes", 6 + 3 * 8, x.at(5, 1));
        Due.drill(x, "h;p9905");
        DUE.is("hands do not slip", 0, x.at(5, 5));
        DUE.is("four of five", 324, x.at(5, 0));
        Due.drill(x, "b;p5905");
        DUE.is("a bow goes on in the fifth", 225, x.at(5, 0));
    }

    private static void sand() {
        EmberDrill x = Due.dryWoods();
        x.take(0, 0);
        Due.drill(x, "b;s;p6206;s;s;p6203;r02;p6203;s");
        DUE.is("none at first", 0, x.at(0, 3));
        DUE.is("ahead of it", 5, x.at(5, 3));
        DUE.is("sand ahead of the next one is in", 0, x.at(6, 3));
        DUE.is("behind it", 3, x.at(9, 3));
        DUE.is("rest leaves it", 3, x.at(11, 3));
        DUE.is("in the last", 5, x.at(13, 3));
        DUE.is("at the end", 0, x.at(14, 3));
    }

    private static void embers() {
        EmberDrill x = Due.dryWoods();
        x.take(0, 0);
        x.tell(2, 0);
        Due.drill(x, "b;p5805");
        DUE.is("heat 200 in the fifth", 200, x.at(5, 0));
        DUE.is("dust", 18, x.at(5, 1));
        DUE.is("dust is too little", EmberDrill.NONE, x.ember());
        x.tell(3, 18);
        DUE.is("dust is enough", 5, x.ember());
        x.tell(3, 1);
        DUE.is("heat is what it waits for", 5, x.ember());
        x.take(0, 2);
        DUE.is("a pitchy board glows later", EmberDrill.NONE, x.ember());
        x.take(2, 0);
        DUE.is("a pitchy spindle, too", EmberDrill.NONE, x.ember());
        Due.drill(x, "b;p5807");
        DUE.is("heat 280", 7, x.ember());
        Due.drill(x, "b;s");
        DUE.is("no seconds", EmberDrill.NONE, x.ember());
    }

    private static void comes() {
        EmberDrill x = new EmberDrill();
        x.wood(0, 4, 0, 20);
        x.wood(0, 4, 30, 20);
        x.take(0, 0);
        Due.drill(x, "b;p6960");
        DUE.is("an ember", 0, x.comes());
        Due.drill(x, "b;p6901;p7101");
        DUE.is("slipped", 3, x.comes());
        Due.drill(x, "b;p7105");
        DUE.is("glazed ahead of slipped", 2, x.comes());
        Due.drill(x, "b;p7105;s");
        DUE.is("sand at the end", 3, x.comes());
        x.take(0, 1);
        DUE.is("steam ahead of all", 1, x.comes());
        x.take(0, 0);
        x.tell(0, 15);
        Due.drill(x, "b;p6902");
        DUE.is("tired", 4, x.comes());
        Due.drill(x, "b;p7801;p6901");
        DUE.is("slipped ahead of tired", 3, x.comes());
        x.tell(0, 300);
        Due.drill(x, "b;p6902");
        DUE.is("smoke", 5, x.comes());
        Due.drill(x, "b;p6901");
        DUE.is("nothing", 6, x.comes());
        Due.drill(x, "h;p1105");
        DUE.is("hands that go up do not slip", 6, x.comes());
        Due.drill(x, "b;s");
        DUE.is("nothing by sand", 6, x.comes());
    }

    private static void states() {
        EmberDrill x = new EmberDrill();
        DUE.is("at 1 without a drill", EmberDrill.OUTSIDE, x.at(1, 0));
        DUE.is("at 0, what 7 without a drill", EmberDrill.OUTSIDE, x.at(0, 7));
        DUE.is("at 0 without a drill", EmberDrill.STATE, x.at(0, 6));
        DUE.is("ember", EmberDrill.STATE, x.ember());
        DUE.is("comes", EmberDrill.STATE, x.comes());
        x.wood(0, 0, 0, 20);
        Due.drill(x, "h;r01");
        DUE.is("at without a spindle", EmberDrill.STATE, x.at(1, 0));
        DUE.is("ember without a spindle", EmberDrill.STATE, x.ember());
        DUE.is("comes without a spindle", EmberDrill.STATE, x.comes());
        x.take(0, 0);
        DUE.is("at", 0, x.at(1, 0));
        EmberDrill y = new EmberDrill();
        y.wood(0, 0, 0, 20);
        y.take(0, 0);
        DUE.is("ember without a drill", EmberDrill.STATE, y.ember());
    }
}

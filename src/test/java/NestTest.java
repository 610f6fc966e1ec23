/** Promises 21 to 24. */
public final class NestTest {
    private static final Due DUE = new Due("NestTest");

    public static void main(String[] args) {
        nest();
        blow();
        carried();
        states();
        lessons();
        lessonsRefuse();
        DUE.end();
    }

    /** GLIMMER is 18: heat is 200 in the fifth second, three seconds gave 6 each. */
    private static EmberDrill glimmerOf18() {
        EmberDrill x = Due.dryWoods();
        x.take(0, 0);
        x.tell(2, 0);
        x.tell(3, 1);
        Due.drill(x, "b;p5809");
        DUE.is("ember", 5, x.ember());
        DUE.is("dust", 18, x.at(5, 1));
        return x;
    }

    private static void nest() {
        EmberDrill x = glimmerOf18();
        DUE.is("9 * 6 / 4 - 1 is 12: 18 + 7 * 12 is 102", 7, x.nest(9, 9, 6));
        DUE.is("9 * 7 / 4 - 1 - 7 is 7: 18 + 12 * 7 is 102", 12, x.nest(9, 9, 7));
        DUE.is("9 * 9 / 4 - 1 - 9 is 10: 18 + 9 * 10 is 108", 9, x.nest(9, 9, 9));
        DUE.is("1 * 4 / 4 - 1 is 0", EmberDrill.NONE, x.nest(9, 1, 4));
        DUE.is("2 * 4 / 4 - 1 is 1: 78 behind 60", EmberDrill.NONE, x.nest(9, 2, 4));
        DUE.is("3 * 4 / 4 - 1 is 2: 100 behind 41", 41, x.nest(9, 3, 4));
        DUE.is("0 - 9: out in the second", EmberDrill.NONE, x.nest(1, 0, 9));
        DUE.is("3 / 4 is 0", EmberDrill.NONE, x.nest(9, 3, 1));
        int[][] wrong = {{-1, 0, 1}, {10, 0, 1}, {0, -1, 1}, {0, 10, 1}, {0, 0, 0}, {0, 0, 10}};
        for (int[] w : wrong) DUE.is("wrong", EmberDrill.OUTSIDE, x.nest(w[0], w[1], w[2]));
        nestToItsEnd();
        muchDust();
    }

    private static EmberDrill glimmerOf(int heap) {
        EmberDrill x = Due.glimmerOf(heap);
        DUE.is("glimmer", heap, x.at(x.ember(), 1));
        return x;
    }

    private static void nestToItsEnd() {
        DUE.is("40 and 60", 60, glimmerOf(40).nest(9, 2, 4));
        DUE.is("39 and 60", EmberDrill.NONE, glimmerOf(39).nest(9, 2, 4));
    }

    /** 9 of heat, 4 of dust a second, from heat 108 in the twelfth on. */
    private static void muchDust() {
        EmberDrill x = new EmberDrill();
        x.wood(1, 0, 0, 60);
        x.wood(1, 0, 0, 32);
        x.tell(0, 999);
        x.tell(2, 0);
        Due.drill(x, "b;p1960;p6960");
        x.take(0, 0);
        DUE.is("540 and 54 and 54", 62, x.ember());
        DUE.is("glimmer", 49 * 4 + 2 * 24, x.at(62, 1));
        DUE.is("a flame in the first", 1, x.nest(0, 0, 1));
        x.take(1, 1);
        DUE.is("324", 36, x.ember());
        DUE.is("glimmer", 100, x.at(36, 1));
        DUE.is("100 ahead of the first second are no flame", EmberDrill.NONE, x.nest(0, 0, 1));
        DUE.is("100 behind it are", 1, x.nest(9, 1, 4));
    }

    private static void blow() {
        EmberDrill x = glimmerOf18();
        DUE.is("12 a second by 6", 6, x.blow(9, 9));
        DUE.is("by none", EmberDrill.NONE, x.blow(0, 0));
        DUE.is("3 * 6 / 4 - 1 is 3, 3 * 5 / 4 - 1 is 2", 6, x.blow(9, 3));
        DUE.is("8 * 5 / 4 - 10 is 0, 8 * 6 / 4 - 10 is 2", 6, x.blow(0, 8));
        int[][] wrong = {{-1, 0}, {10, 0}, {0, -1}, {0, 10}};
        for (int[] w : wrong) DUE.is("wrong", EmberDrill.OUTSIDE, x.blow(w[0], w[1]));
        for (int dry = 0; dry < 10; dry++) {
            for (int loose = 0; loose < 10; loose++) {
                EmberDrill y = glimmerOf(7 + 9 * dry + loose % 2);
                DUE.is("blow", bestBlow(y, dry, loose), y.blow(dry, loose));
            }
        }
        DUE.is("of 5 and 6 the lesser", 5, glimmerOf(72).blow(9, 9));
    }

    private static int bestBlow(EmberDrill x, int dry, int loose) {
        int best = EmberDrill.NONE;
        int soonest = 61;
        for (int b = 9; b >= 1; b--) {
            int s = x.nest(dry, loose, b);
            if (s > 0 && s <= soonest) {
                soonest = s;
                best = b;
            }
        }
        return best;
    }

    private static void carried() {
        EmberDrill x = glimmerOf18();
        DUE.is("18, 8, 3", 1, x.carried(2));
        DUE.is("18, 11, 7, 4", 2, x.carried(3));
        DUE.is("18, 15, 13, 11, 9, 7, 6, 5, 4", 7, x.carried(9));
        DUE.is("horn 1", EmberDrill.OUTSIDE, x.carried(1));
        DUE.is("horn 10", EmberDrill.OUTSIDE, x.carried(10));
        DUE.is("horn 0", EmberDrill.OUTSIDE, x.carried(0));
        x.tell(3, 43);
        DUE.is("too little dust for an ember", EmberDrill.STATE, x.carried(5));
        x = new EmberDrill();
        x.wood(0, 9, 0, 20);
        x.wood(0, 8, 0, 20);
        x.take(0, 1);
        x.tell(2, 0);
        x.tell(3, 1);
        Due.drill(x, "b;p5804;p6905");
        DUE.is("ember", 5, x.ember());
        DUE.is("a small one", 3, x.at(5, 1));
        DUE.is("not for an hour", 0, x.carried(9));
    }

    private static void states() {
        EmberDrill x = Due.dryWoods();
        DUE.is("nest 10 without a drill", EmberDrill.OUTSIDE, x.nest(10, 0, 1));
        DUE.is("nest without a drill", EmberDrill.STATE, x.nest(9, 0, 1));
        DUE.is("blow without a drill", EmberDrill.STATE, x.blow(9, 0));
        DUE.is("carried without a drill", EmberDrill.STATE, x.carried(2));
        Due.drill(x, "b;p5809");
        DUE.is("nest without a spindle", EmberDrill.STATE, x.nest(9, 0, 1));
        DUE.is("blow without a spindle", EmberDrill.STATE, x.blow(9, 0));
        DUE.is("carried without a spindle", EmberDrill.STATE, x.carried(2));
        x.take(0, 0);
        Due.drill(x, "b;p1101");
        DUE.is("nest without an ember", EmberDrill.STATE, x.nest(9, 0, 1));
        DUE.is("blow without an ember", EmberDrill.STATE, x.blow(9, 0));
        DUE.is("carried without an ember", EmberDrill.STATE, x.carried(2));
        DUE.is("blow 10 without an ember", EmberDrill.OUTSIDE, x.blow(10, 0));
        DUE.is("carried 1 without an ember", EmberDrill.OUTSIDE, x.carried(1));
    }

    private static void taught(EmberDrill x, int f, int n, int sum, int... order) {
        DUE.is("sum", sum, x.lessons(f, 0, 0, 0, n, -1));
        for (int q = 0; q < f; q++) DUE.is("thing " + q, order[q], x.lessons(f, 0, 0, 0, n, q));
    }

    private static void lessons() {
        EmberDrill x = new EmberDrill();
        Due.row(x, 0, 0, 4, 4, 2, 0, 5);
        taught(x, 3, 3, 4, 2, 1, 0);
        taught(x, 3, 4, 4, 2, 1, 0);
        taught(x, 3, 5, 7, 2, 0, 1);       // 1, 1, 3, 0, 2
        Due.row(x, 0, 0, 31, 31);
        taught(x, 5, 2, 10, 0, 1, 2, 3, 4);
        Due.row(x, 0, 0, 0);
        taught(x, 5, 1, 0, 0, 1, 2, 3, 4);
        Due.row(x, 0, 0, 16);
        taught(x, 5, 1, 1, 4, 0, 1, 2, 3);
        Due.row(x, 0, 0, 24, 6, 6);
        taught(x, 5, 3, 8, 1, 2, 3, 4, 0);
        Due.row(x, 0, 0, 1, 1, 1, 1, 1, 1, 1, 1, 1, 1, 1, 1, 1);
        taught(x, 1, 12, 12, 0);
        DUE.is("13", EmberDrill.OUTSIDE, x.lessons(1, 0, 0, 0, 13, 0));
        DUE.is("from 12 on", 1, x.lessons(1, 0, 0, 12, 1, -1));
    }

    private static void refused(EmberDrill x, String call, int answer, int f, int... sheetLaneFromManyQ) {
        int[] a = sheetLaneFromManyQ;
        DUE.is(call, answer, x.lessons(f, a[0], a[1], a[2], a[3], a[4]));
        DUE.is(call + ": fault", answer <= -11 ? -10 - answer : 0, x.fault());
    }

    private static void lessonsRefuse() {
        EmberDrill x = new EmberDrill();
        Due.row(x, 0, 1, 1, 2, 4, -1);
        refused(x, "sheet 4", EmberDrill.UNKNOWN, 0, 4, 3, -1, -1, 9);
        refused(x, "lane 3", EmberDrill.OUTSIDE, 0, 0, 3, -1, -1, 9);
        refused(x, "cast", -12, 0, 0, 0, -1, -1, 9);
        refused(x, "null", -11, 0, 1, 0, -1, -1, 9);
        refused(x, "size", -14, 0, 0, 1, -1, -1, 9);
        refused(x, "index", -13, 0, 0, 1, -1, 1, 9);
        refused(x, "index beyond", -13, 0, 0, 1, 3, 2, 9);
        refused(x, "index beyond, none taken", -13, 0, 0, 1, 5, 0, 9);
        refused(x, "n 0", EmberDrill.OUTSIDE, 3, 0, 1, 4, 0, 9);
        refused(x, "f 0", EmberDrill.OUTSIDE, 0, 0, 1, 0, 3, 9);
        refused(x, "f 6", EmberDrill.OUTSIDE, 6, 0, 1, 0, 3, 9);
        refused(x, "f at its most", EmberDrill.OUTSIDE, Integer.MAX_VALUE, 0, 1, 0, 3, 9);
        refused(x, "a bit of none", EmberDrill.OUTSIDE, 2, 0, 1, 0, 3, 9);
        refused(x, "a cell below 0", EmberDrill.OUTSIDE, 5, 0, 1, 0, 4, 9);
        refused(x, "q f", EmberDrill.UNKNOWN, 3, 0, 1, 0, 3, 3);
        refused(x, "q -2", EmberDrill.UNKNOWN, 3, 0, 1, 0, 3, -2);
        DUE.is("none of it", 6, x.lessons(3, 0, 1, 0, 3, -1));
    }
}

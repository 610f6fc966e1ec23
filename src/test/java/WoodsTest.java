/** Promises 1 to 7. */
public final class WoodsTest {
    private static final Due DUE = new Due("WoodsTest");

    public static void main(String[] args) {
        aNewObject();
        wood();
        ofWood();
        powder();
        take();
        tell();
        DUE.end();
    }

    private static void aNewObject() {
        EmberDrill x = new EmberDrill();
        for (int what = 0; what < 3; what++) DUE.is("many " + what, 0, x.many(what));
        DUE.is("told 4", EmberDrill.NONE, x.told(4));
        DUE.is("told 5", EmberDrill.NONE, x.told(5));
        DUE.is("no drill", EmberDrill.STATE, x.ofDrill(0));
        DUE.is("no item", EmberDrill.UNKNOWN, x.ofItem(0, 0));
        DUE.is("no wood", EmberDrill.UNKNOWN, x.ofWood(0, 0));
        for (int k = 0; k < 4; k++) DUE.is("no row " + k, 0, x.lose(k));
        DUE.is("trace", 0, x.trace());
        DUE.is("fault", 0, x.fault());
    }

    private static void wood() {
        EmberDrill x = new EmberDrill();
        int[][] wrong = {{-1, 0, 0, 20}, {3, 0, 0, 20}, {0, -1, 0, 20}, {0, 10, 0, 20},
            {0, 0, -1, 20}, {0, 0, 31, 20}, {0, 0, 0, 19}, {0, 0, 0, 61},
            {Integer.MIN_VALUE, 0, 0, 20}, {0, Integer.MAX_VALUE, 0, 20}};
        for (int[] w : wrong) DUE.is("a wrong wood", EmberDrill.OUTSIDE, x.wood(w[0], w[1], w[2], w[3]));
        DUE.is("none came", 0, x.many(0));
        DUE.is("wood", 0, x.wood(0, 0, 0, 20));
        DUE.is("wood", 1, x.wood(2, 9, 30, 60));
        for (int k = 2; k < 6; k++) DUE.is("wood", k, x.wood(1, k, k, 20 + k));
        DUE.is("a seventh", EmberDrill.FULL, x.wood(0, 0, 0, 20));
        DUE.is("a seventh that is wrong", EmberDrill.OUTSIDE, x.wood(0, 0, 0, 19));
        DUE.is("many", 6, x.many(0));
    }

    private static void ofWood() {
        EmberDrill x = new EmberDrill();
        x.wood(0, 3, 7, 31);
        x.wood(1, 4, 8, 32);
        x.wood(2, 5, 9, 33);
        int[] points = {310, 320, 380};
        for (int w = 0; w < 3; w++) {
            DUE.is("kind", w, x.ofWood(w, 0));
            DUE.is("hard", 3 + w, x.ofWood(w, 1));
            DUE.is("wet", 7 + w, x.ofWood(w, 2));
            DUE.is("glow", 31 + w, x.ofWood(w, 3));
            DUE.is("point", points[w], x.ofWood(w, 4));
            DUE.is("what 5", EmberDrill.OUTSIDE, x.ofWood(w, 5));
            DUE.is("what -1", EmberDrill.OUTSIDE, x.ofWood(w, -1));
        }
        DUE.is("wood 3, what 5", EmberDrill.UNKNOWN, x.ofWood(3, 5));
        DUE.is("wood -1", EmberDrill.UNKNOWN, x.ofWood(-1, 0));
    }

    private static void powder() {
        EmberDrill x = new EmberDrill();
        x.wood(0, 6, 0, 20);
        x.wood(1, 6, 0, 20);
        x.wood(2, 6, 0, 20);
        x.wood(1, 0, 0, 20);
        x.wood(0, 9, 0, 20);
        DUE.is("9 times 4 by 10", 3, x.powder(0, 9));
        DUE.is("twice that, soft", 6, x.powder(1, 9));
        DUE.is("twice that, pitchy", 6, x.powder(2, 9));
        DUE.is("1 times 4 by 10", 0, x.powder(0, 1));
        DUE.is("twice 0", 0, x.powder(1, 2));
        DUE.is("twice 1", 2, x.powder(1, 3));
        DUE.is("not hard", 18, x.powder(3, 9));
        DUE.is("hard", 0, x.powder(4, 9));
        DUE.is("press 0", EmberDrill.OUTSIDE, x.powder(0, 0));
        DUE.is("press 10", EmberDrill.OUTSIDE, x.powder(0, 10));
        DUE.is("wood 5, press 0", EmberDrill.UNKNOWN, x.powder(5, 0));
        DUE.is("wood -1", EmberDrill.UNKNOWN, x.powder(-1, 1));
    }

    private static void take() {
        EmberDrill x = Due.dryWoods();
        DUE.is("board 3", EmberDrill.UNKNOWN, x.take(0, 3));
        DUE.is("spindle -1", EmberDrill.UNKNOWN, x.take(-1, 0));
        DUE.is("no spindle yet", EmberDrill.NONE, x.told(4));
        DUE.is("take", 1, x.take(2, 1));
        DUE.is("spindle", 2, x.told(4));
        DUE.is("board", 1, x.told(5));
        DUE.is("spindle 3", EmberDrill.UNKNOWN, x.take(3, 0));
        DUE.is("spindle stays", 2, x.told(4));
        DUE.is("the same", 1, x.take(0, 0));
        DUE.is("spindle", 0, x.told(4));
        DUE.is("board", 0, x.told(5));
    }

    private static void tell() {
        EmberDrill x = new EmberDrill();
        int[] first = {300, 6, 5, 20};
        int[] least = {0, 1, 0, 1};
        int[] most = {999, 9, 20, 99};
        for (int what = 0; what < 4; what++) {
            DUE.is("told at first " + what, first[what], x.told(what));
            DUE.is("too little " + what, EmberDrill.OUTSIDE, x.tell(what, least[what] - 1));
            DUE.is("too much " + what, EmberDrill.OUTSIDE, x.tell(what, most[what] + 1));
            DUE.is("least " + what, first[what], x.tell(what, least[what]));
            DUE.is("most " + what, least[what], x.tell(what, most[what]));
            DUE.is("told " + what, most[what], x.told(what));
        }
        DUE.is("tell 4", EmberDrill.OUTSIDE, x.tell(4, 1));
        DUE.is("tell -1", EmberDrill.OUTSIDE, x.tell(-1, 1));
        DUE.is("told 6", EmberDrill.OUTSIDE, x.told(6));
        DUE.is("told -1", EmberDrill.OUTSIDE, x.told(-1));
    }
}

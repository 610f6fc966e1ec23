/** Promises 14 to 17, by small runs that are worked out by hand; ModelTest tries many more. */
public final class BestTest {
    private static final Due DUE = new Due("BestTest");

    public static void main(String[] args) {
        grid();
        gridToItsEnd();
        finish();
        finishToItsEnd();
        go();
        more();
        moreByTheStrongest();
        moreRefuses();
        states();
        DUE.end();
    }

    private static void grids(EmberDrill x, String call, int second, int press, int quick) {
        DUE.is(call + ": second", second, x.grid(0));
        DUE.is(call + ": press", press, x.grid(1));
        DUE.is(call + ": quick", quick, x.grid(2));
    }

    private static void grid() {
        EmberDrill x = Due.dryWoods();
        x.take(0, 0);
        x.tell(2, 0);
        x.tell(3, 1);
        Due.drill(x, "b;s");
        grids(x, "54 a second by a grip of 6", 4, 6, 9);
        x.tell(1, 9);
        grids(x, "72 a second is enough", 3, 8, 9);
        x.tell(1, 6);
        Due.drill(x, "h;s");
        grids(x, "hands have no grip", 3, 8, 9);
        x.tell(3, 20);
        grids(x, "a press of 9 for the dust", 3, 9, 8);
        x.tell(0, 1);
        grids(x, "too weak", EmberDrill.NONE, EmberDrill.NONE, EmberDrill.NONE);
        DUE.is("what 3", EmberDrill.OUTSIDE, x.grid(3));
        DUE.is("what -1", EmberDrill.OUTSIDE, x.grid(-1));
    }

    /** Found by trying: in the one it comes just in the last second, in the other it would come in the next. */
    private static void gridToItsEnd() {
        EmberDrill x = new EmberDrill();
        x.wood(1, 9, 7, 52);
        x.wood(1, 7, 13, 48);
        x.take(0, 1);
        x.tell(0, 181);
        x.tell(2, 0);
        x.tell(3, 85);
        Due.drill(x, "b;s");
        grids(x, "in second 120", 120, 4, 3);
        x = new EmberDrill();
        x.wood(0, 7, 27, 46);
        x.wood(2, 8, 23, 22);
        x.take(0, 1);
        x.tell(0, 15);
        x.tell(1, 5);
        x.tell(2, 1);
        x.tell(3, 61);
        Due.drill(x, "b;s");
        grids(x, "it would be 121", EmberDrill.NONE, EmberDrill.NONE, EmberDrill.NONE);
    }

    /** Two hard WOODS that give 1 of dust by a press of 9, but for its first second, which is not hot enough. */
    private static EmberDrill hardWoods(int arms, int heap) {
        EmberDrill x = new EmberDrill();
        x.wood(0, 9, 0, 20);
        x.wood(0, 8, 0, 20);
        x.take(0, 1);
        x.tell(0, arms);
        x.tell(1, 9);
        x.tell(2, 0);
        x.tell(3, heap);
        return x;
    }

    /** One who is tired rests 6 seconds for one by 9 and 9. */
    private static void finishToItsEnd() {
        EmberDrill x = hardWoods(18, 17);
        Due.drill(x, "b;s");
        finishes(x, "the 18th in second 1 + 7 * 17", 120, 0);
        x.tell(3, 18);
        finishes(x, "the 19th in second 127", EmberDrill.NONE, EmberDrill.NONE);
        x = hardWoods(36, 17);
        Due.drill(x, "b;s");
        finishes(x, "the 18th in second 2 + 7 * 16", 114, 0);
        x.tell(3, 18);
        finishes(x, "the 19th in second 121", EmberDrill.NONE, EmberDrill.NONE);
    }

    private static void finishes(EmberDrill x, String call, int second, int k) {
        DUE.is(call + ": second", second, x.finish(0));
        DUE.is(call + ": k", k, x.finish(1));
    }

    private static void finish() {
        EmberDrill x = Due.dryWoods();
        x.take(0, 0);
        x.tell(2, 0);
        x.tell(3, 1);
        Due.drill(x, "h;p1160");
        finishes(x, "all at once", 3, 0);
        Due.drill(x, "h;p8804;p1101");
        x.tell(0, 52);
        finishes(x, "one by 16, two by 18 take 52", 3, 1);
        x.tell(0, 50);
        finishes(x, "two by 16, one by 18 take 50", 3, 2);
        x.tell(0, 49);
        finishes(x, "one tires in the third, the least k that does", 4, 1);
        x.tell(0, 1);
        finishes(x, "too weak", EmberDrill.NONE, EmberDrill.NONE);
        x.tell(0, 300);
        Due.drill(x, "b;p6910");
        finishes(x, "by a bow 9 slips, but the drill itself does", 4, 4);
        Due.drill(x, "b;r60;r60;r05;p6905");
        finishes(x, "an ember behind 120 seconds of the drill", 129, 129);
        DUE.is("what 2", EmberDrill.OUTSIDE, x.finish(2));
        DUE.is("what -1", EmberDrill.OUTSIDE, x.finish(-1));
    }

    private static void go() {
        EmberDrill x = Due.dryWoods();
        x.tell(2, 0);
        x.tell(3, 1);
        DUE.is("no drill", EmberDrill.STATE, x.go(0));
        DUE.is("wood 3, no drill", EmberDrill.UNKNOWN, x.go(3));
        Due.drill(x, "b;p5805");
        DUE.is("200: not with the pitchy one", 3, x.go(0));
        DUE.is("200: not with the pitchy one", 3, x.go(1));
        DUE.is("pitchy", 0, x.go(2));
        x.wood(0, 9, 0, 20);
        DUE.is("a hard one gives no dust, the other does", 11, x.go(0));
        DUE.is("a hard one and itself do not", 3, x.go(3));
        Due.drill(x, "b;p5807");
        DUE.is("280", 15, x.go(2));
        DUE.is("wood -1", EmberDrill.UNKNOWN, x.go(-1));
        DUE.is("nothing was taken", EmberDrill.NONE, x.told(4));
    }

    private static void likely(EmberDrill x, String call, int n, int upper, int lower) {
        DUE.is(call + ": upper", upper, x.more(n, 0, 0, 1, 0));
        DUE.is(call + ": lower", lower, x.more(n, 0, 0, 1, 1));
        DUE.is(call + ": fault", 0, x.fault());
    }

    /** 40 a second by 13 of strength: 5 seconds take 65. Rest gives 3 back. */
    private static void more() {
        EmberDrill x = Due.dryWoods();
        x.take(0, 0);
        x.tell(2, 0);
        x.tell(3, 1);
        x.tell(0, 65);
        Due.row(x, 0, 0, 77, 1, 2, 3, 4, 5);
        Due.drill(x, "b;p5804");
        likely(x, "four are too few", 0, 0, 1);
        likely(x, "25, 45 are too weak, 65, 85, 105 are not", 1, 4, 5);
        likely(x, "45: 6 behind three, so 3 seconds more", 2, 4, 5);
        likely(x, "45: 39, 6, then 9, 12, 15: 2", 5, 4, 5);
        likely(x, "it goes on", 60, 1, 1);
        Due.row(x, 0, 0, 77, 0, 0, 0, 0, 9);
        likely(x, "sure", 1, 1, 1);
        Due.row(x, 0, 0, 77, 9, 9, 0, 0, 0);
        likely(x, "surely not", 1, 0, 1);
        Due.row(x, 0, 0, 77, 9, 9, 9, 9, 9);
        likely(x, "three of five", 1, 3, 5);
        Due.drill(x, "b;p9904;p5804;r01;s");
        x.tell(1, 5);
        x.tell(0, 0);
        likely(x, "arms 0, 0, 0 do not, 20, 40 do", 60, 2, 5);
        Due.row(x, 0, 0, 77, 1, 1, 1, 0, 0);
        likely(x, "arms 0, 0, 0", 60, 0, 1);
        x.tell(0, 999);
        Due.row(x, 0, 0, 77, 0, 0, 1, 1, 1);
        likely(x, "as its last p, not as its last item", 1, 1, 1);
        x.tell(3, 99);
        likely(x, "9 seconds of 6 are too little", 1, 0, 1);
    }

    /** 999 are 55 times 18, 1039 would be 57 times. */
    private static void moreByTheStrongest() {
        EmberDrill x = hardWoods(999, 54);
        Due.row(x, 0, 0, 77, 0, 0, 0, 0, 1);
        Due.drill(x, "b;p9960");
        likely(x, "the 55th", 0, 1, 1);
        x.tell(3, 56);
        likely(x, "arms are not above 999", 0, 0, 1);
        likely(x, "the 56th in second 59, the 57th in second 66", 5, 0, 1);
        likely(x, "the 57th", 6, 1, 1);
    }

    private static void lost(EmberDrill x, String call, int fault, int n, int... sheetLaneFromWhich) {
        int[] a = sheetLaneFromWhich;
        DUE.is(call, EmberDrill.LOST, x.more(n, a[0], a[1], a[2], a[3]));
        DUE.is(call + ": fault", fault, x.fault());
    }

    private static void moreRefuses() {
        EmberDrill x = Due.dryWoods();
        x.take(0, 0);
        Due.drill(x, "b;p5804");
        Due.row(x, 0, 1, 1, 1, 1, 1, 1, 1);
        lost(x, "sheet 4", 0, 61, 4, 3, 9, 2);
        lost(x, "lane 3", 0, 61, 0, 3, 9, 2);
        lost(x, "cast", 2, 61, 0, 2, 9, 2);
        lost(x, "null", 1, 61, 1, 2, 9, 2);
        lost(x, "index 2", 3, 61, 0, 1, 2, 2);
        lost(x, "index -1", 3, 61, 0, 1, -1, 2);
        lost(x, "index at its most", 3, 61, 0, 1, Integer.MAX_VALUE, 2);
        lost(x, "n 61", 0, 61, 0, 1, 1, 0);
        lost(x, "n -1", 0, -1, 0, 1, 1, 0);
        lost(x, "which 2", 0, 0, 0, 1, 1, 2);
        lost(x, "which -1", 0, 0, 0, 1, 1, -1);
        Due.row(x, 0, 1, 1, 1, 1, 1, 1, 10);
        lost(x, "a weight of 10", 0, 0, 0, 1, 1, 0);
        DUE.is("but for it", 0, x.more(0, 0, 1, 0, 0));
        Due.row(x, 0, 1, 1, -1, 1, 1, 1, 1);
        lost(x, "a weight of -1", 0, 0, 0, 1, 1, 0);
        Due.row(x, 0, 1, 1, 0, 0, 0, 0, 0);
        lost(x, "all 0", 0, 0, 0, 1, 1, 0);
        Due.row(x, 0, 1, 1, 1, 1, 1, 1, 1);
        Due.drill(x, "b;r10;s");
        lost(x, "no p", 0, 0, 0, 1, 1, 0);
    }

    private static void states() {
        EmberDrill x = Due.dryWoods();
        Due.row(x, 0, 1, 1, 1, 1, 1, 1, 1);
        x.take(0, 0);
        DUE.is("grid without a drill", EmberDrill.STATE, x.grid(0));
        DUE.is("finish without a drill", EmberDrill.STATE, x.finish(0));
        DUE.is("grid 3 without a drill", EmberDrill.OUTSIDE, x.grid(3));
        DUE.is("finish 2 without a drill", EmberDrill.OUTSIDE, x.finish(2));
        lost(x, "more without a drill", 0, 0, 0, 1, 0, 0);
        EmberDrill y = Due.dryWoods();
        Due.row(y, 0, 1, 1, 1, 1, 1, 1, 1);
        Due.drill(y, "h;p1101");
        DUE.is("grid without a spindle", EmberDrill.STATE, y.grid(0));
        DUE.is("finish without a spindle", EmberDrill.STATE, y.finish(0));
        lost(y, "more without a spindle", 0, 0, 0, 1, 0, 0);
        DUE.is("go needs no spindle", 0, y.go(0));
    }
}

/** Block 3 of the document, promises 14 to 17, at its edges: each method says which sentence it tests. */
public final class BestEdgesTest {
    private static final Due DUE = new Due("BestEdgesTest");
    private static final int UNKNOWN = EmberDrill.UNKNOWN, STATE = EmberDrill.STATE, NONE = EmberDrill.NONE;
    private static final int ARMS = 0, GRIP = 1, COLD = 2, HEAP = 3;

    public static void main(String[] args) {
        gridOfAllPressesAndQuicks();
        gridOfSeveral();
        gridByNone();
        gridLeavesTheItemsOut();
        finishOfNoSeconds();
        finishOfAllSeconds();
        finishWithSandAheadOfTheNext();
        finishWithTheEmberInThose();
        finishTo120();
        finishBehind120();
        finishOfSeveral();
        finishByNone();
        goOfSix();
        goWithItself();
        moreOf0And60();
        moreOfTheLastP();
        moreByWeightsAtTheirEdges();
        moreInLeastTerms();
        moreByArmsAtTheirEdges();
        moreByArmsOf999();
        moreOfItsOwnFiveCells();
        moreFromTheEndOfARow();
        moreOfEachLane();
        moreIsRefusedByWeights();
        DUE.end();
    }

    private static EmberDrill woods(int kind, int hard, int glow, String text) {
        EmberDrill x = new EmberDrill();
        x.wood(kind, hard, 0, glow);
        x.take(0, 0);
        x.tell(COLD, 0);
        x.tell(HEAP, 1);
        DUE.holds("a text: " + text, Due.drill(x, text) > 0);
        return x;
    }

    private static void grids(String call, EmberDrill x, int second, int press, int quick) {
        DUE.is(call + ": second", second, x.grid(0));
        DUE.is(call + ": press", press, x.grid(1));
        DUE.is(call + ": quick", quick, x.grid(2));
    }

    private static void finishes(String call, EmberDrill x, int second, int k) {
        DUE.is(call + ": second", second, x.finish(0));
        DUE.is(call + ": k", k, x.finish(1));
    }

    /** "GRID: one press, one quick (1 .. 9 each) in all SECONDS to 120" */
    private static void gridOfAllPressesAndQuicks() {
        EmberDrill x = woods(0, 0, 20, "b;s");
        x.tell(GRIP, 1);
        grids("the least press: 23 times 9 are 207", x, 23, 1, 9);
        x = woods(0, 0, 24, "h;s");
        grids("both at most: 3 times 81 are 243", x, 3, 9, 9);
        x = woods(0, 0, 20, "b;s");
        x.tell(ARMS, 2);
        x.tell(GRIP, 9);
        grids("60 times 1 in 120 seconds", x, NONE, NONE, NONE);
    }

    /** "of several the least press, then quick" */
    private static void gridOfSeveral() {
        EmberDrill x = woods(0, 0, 20, "h;s");
        grids("8 9, 9 8, 9 9: the least press", x, 3, 8, 9);
        x.tell(HEAP, 32);
        grids("twice 16 of dust by 8", x, 3, 8, 9);
        x.tell(HEAP, 33);
        grids("9 8, 9 9: the least quick", x, 3, 9, 8);
        x.tell(HEAP, 36);
        grids("twice 18 of dust by 9", x, 3, 9, 8);
        x.tell(HEAP, 37);
        grids("three times 14 by 7, if the second one is hot", x, 4, 7, 8);
    }

    /** "NONE: it comes by none" */
    private static void gridByNone() {
        EmberDrill x = woods(0, 9, 20, "h;s");
        grids("no dust by any", x, NONE, NONE, NONE);
        x = woods(0, 0, 20, "h;s");
        for (int arms = 0; arms < 2; arms++) {
            x.tell(ARMS, arms);
            grids("too weak for 1 and 1", x, NONE, NONE, NONE);
        }
    }

    /** The DRILL tells "HANDS, BOW", and nothing else. */
    private static void gridLeavesTheItemsOut() {
        for (String items : new String[] {";s", ";r60", ";p1101", ";p9160;p9160", ";p9960;p9960"}) {
            grids("hands" + items, woods(0, 0, 20, "h" + items), 3, 8, 9);
            grids("bow" + items, woods(0, 0, 20, "b" + items), 4, 6, 9);
        }
    }

    /** "the first k SECONDS of the DRILL (0 .. all of them": there are none, so it is 9 and 9 from the first on. */
    private static void finishOfNoSeconds() {
        finishes("no seconds", woods(0, 0, 24, "h;s"), 3, 0);
        finishes("no seconds", woods(0, 0, 24, "h;s;s;s;s;s;s;s;s"), 3, 0);
    }

    /** By a GRIP of 6 the 9 and 9 only slips, but gives dust, where the DRILL has made it hot. */
    private static void finishOfAllSeconds() {
        EmberDrill x = woods(0, 4, 20, "b;p6904");
        x.tell(HEAP, 28);
        finishes("all four", x, 5, 4);
        x.tell(HEAP, 29);
        finishes("all four", x, 6, 4);
        Due.drill(x, "b;p6903");
        finishes("three are not hot enough", x, NONE, NONE);
    }

    /** "sand ahead of the next SECOND is in" */
    private static void finishWithSandAheadOfTheNext() {
        EmberDrill x = woods(0, 0, 24, "b;p9406;s;p1101");
        x.tell(ARMS, 78);
        x.tell(GRIP, 9);
        x.tell(HEAP, 78);
        finishes("198, six of rest, 81", x, 13, 6);
        x = woods(1, 7, 24, "h;p9410;s");
        x.tell(ARMS, 77);
        x.tell(HEAP, 35);
        finishes("found by trying", x, 14, 10);
        Due.drill(x, "h;p9410");
        finishes("without sand", x, 15, 1);
    }

    /** "(perhaps in those k)" */
    private static void finishWithTheEmberInThose() {
        EmberDrill x = woods(0, 0, 20, "b;p6910");
        x.tell(HEAP, 36);
        DUE.is("ember", 4, x.ember());
        finishes("in the fourth of ten", x, 4, 4);
        x.tell(HEAP, 37);
        finishes("in the fifth: four and a slip, or five", x, 5, 4);
    }

    /** "then press 9, quick 9 to 120 SECONDS in all" */
    private static void finishTo120() {
        String[] texts = {"b;r60;r54;p6904;r60", "b;r60;r55;p6904;r60", "b;r60;r56;p6904;r60"};
        int[][] due = {{119, 118}, {120, 119}, {NONE, NONE}};
        for (int t = 0; t < 3; t++) {
            EmberDrill x = woods(0, 4, 20, texts[t]);
            x.tell(HEAP, 28);
            finishes(texts[t], x, due[t][0], due[t][1]);
        }
        EmberDrill x = woods(0, 4, 20, texts[0]);
        x.tell(HEAP, 38);
        finishes("two more to 120", x, 120, 118);
        x.tell(HEAP, 39);
        finishes("three more would be 121", x, NONE, NONE);
    }

    /** All of the DRILL's SECONDS may be in k: where they are 120 or more, no 9 and 9 follows. */
    private static void finishBehind120() {
        EmberDrill x = woods(0, 4, 20, "b;r60;r56;p6904;r60");
        x.tell(HEAP, 18);
        finishes("the drill's own in 120", x, 120, 120);
        x = woods(0, 4, 20, "b;r60;r57;p6904;r60");
        x.tell(HEAP, 18);
        finishes("the drill's own in 121", x, 121, 121);
        x = woods(0, 4, 20, "b;r60;r60;r60;r60;r60;r60;r60;p6960");
        x.tell(HEAP, 18);
        finishes("the drill's own in 424", x, 424, 424);
    }

    /** "of several the least k" */
    private static void finishOfSeveral() {
        EmberDrill x = woods(0, 0, 20, "h;p9910");
        finishes("9 and 9 all along", x, 3, 0);
        Due.drill(x, "h;p8910");
        finishes("8 and 9 would do", x, 3, 0);
        x.tell(ARMS, 53);
        finishes("54 are too much: 17, 18, 18", x, 3, 1);
        x.tell(ARMS, 52);
        finishes("17, 17, 18", x, 3, 2);
        x.tell(ARMS, 51);
        finishes("17, 17, 17", x, 3, 3);
    }

    /** "NONE: it comes by none" */
    private static void finishByNone() {
        EmberDrill x = woods(0, 9, 20, "h;p9960");
        finishes("no dust by any", x, NONE, NONE);
        x = woods(0, 0, 20, "h;p9960");
        x.tell(ARMS, 1);
        finishes("too weak", x, NONE, NONE);
    }

    /** "GO: of A SPINDLE those BOARDS", "Sets are told as bits (bit k for number k)" */
    private static void goOfSix() {
        EmberDrill x = new EmberDrill();
        for (int w = 0; w < 6; w++) x.wood(0, 0, 0, w == 0 || w == 5 ? 20 : 60);
        x.tell(COLD, 0);
        Due.drill(x, "h;p9903");
        int[] due = {33, 0, 0, 0, 0, 33};
        for (int w = 0; w < 6; w++) DUE.is("go " + w, due[w], x.go(w));
        Due.drill(x, "h;p9910");
        for (int w = 0; w < 6; w++) DUE.is("all", 63, x.go(w));
        Due.drill(x, "h;s");
        for (int w = 0; w < 6; w++) DUE.is("none", 0, x.go(w));
        DUE.is("wood 6", UNKNOWN, x.go(6));
        DUE.is("wood -1", UNKNOWN, x.go(-1));
        DUE.is("none was taken", NONE, x.told(4));
    }

    private static void goWithItself() {
        EmberDrill x = new EmberDrill();
        x.wood(0, 0, 0, 20);
        DUE.is("no drill", STATE, x.go(0));
        x.tell(COLD, 0);
        Due.drill(x, "h;p9903");
        DUE.is("itself", 1, x.go(0));
    }

    private static void likely(String call, EmberDrill x, int n, int upper, int lower) {
        DUE.is(call + ": upper", upper, x.more(n, 0, 0, 0, 0));
        DUE.is(call + ": lower", lower, x.more(n, 0, 0, 0, 1));
    }

    /** "the DRILL, and n SECONDS more (0 .. 60)": 480 and 60, and it comes in the last. */
    private static void moreOf0And60() {
        EmberDrill x = new EmberDrill();
        x.wood(0, 0, 30, 24);
        x.take(0, 0);
        x.tell(ARMS, 600);
        x.tell(COLD, 0);
        x.tell(HEAP, 1);
        Due.drill(x, "b;r60;r60;r60;r60;r60;r60;r60;p1360");
        Due.row(x, 0, 0, 1, 1, 1, 1, 1);
        DUE.is("3 of work, 2 of them steam", 60, x.at(480, 0));
        likely("0 more", x, 0, 0, 1);
        likely("59 more: 237", x, 59, 0, 1);
        likely("60 more: 240", x, 60, 1, 1);
        DUE.is("61 more", EmberDrill.LOST, x.more(61, 0, 0, 0, 0));
        DUE.is("1 less", EmberDrill.LOST, x.more(-1, 0, 0, 0, 0));
        Due.drill(x, "b;p1360;p1360");
        likely("none is needed", x, 0, 1, 1);
    }

    /** "as its last p": behind a rest and sand, and not as the p ahead of it */
    private static void moreOfTheLastP() {
        EmberDrill x = woods(0, 0, 20, "h;p9901;p1101;r01;s");
        Due.row(x, 0, 0, 0, 0, 1, 0, 0);
        DUE.is("82", 82, x.at(3, 0));
        // Each fifth second is without: 2 of 5 would do by 9 and 9.
        likely("5 by 1 and 1", x, 5, 0, 1);
        likely("60 by 1 and 1", x, 60, 0, 1);
        Due.drill(x, "h;p1101;p9901;s;r01");
        likely("1 by 9 and 9", x, 1, 0, 1);
        likely("2 by 9 and 9, the fourth and the fifth", x, 2, 0, 1);
        likely("3 by 9 and 9", x, 3, 1, 1);
        Due.drill(x, "h;s;r10");
        DUE.is("no p", EmberDrill.LOST, x.more(60, 0, 0, 0, 0));
        DUE.is("no fault", 0, x.fault());
    }

    /** "by five weights (0 .. 9, not all 0)" */
    private static void moreByWeightsAtTheirEdges() {
        EmberDrill x = woods(0, 0, 20, "h;p9903");
        x.tell(ARMS, 54);
        int[] good = {0, 0, 1, 1, 1};
        for (int g = 0; g < 5; g++) {
            int[] weights = new int[5];
            weights[g] = 9;
            Due.row(x, 0, 0, weights);
            likely("sure of the " + g, x, 0, good[g], 1);
            weights[g] = 1;
            Due.row(x, 0, 0, weights);
            likely("sure of the " + g, x, 0, good[g], 1);
        }
        Due.row(x, 0, 0, 9, 9, 9, 9, 9);
        likely("all at most", x, 0, 3, 5);
        Due.row(x, 0, 0, 9, 9, 0, 0, 9);
        likely("9 of 27", x, 0, 1, 3);
    }

    /** "Shares are told as upper and lower number (above 0) in least terms" */
    private static void moreInLeastTerms() {
        EmberDrill x = woods(0, 0, 20, "h;p9903");
        x.tell(ARMS, 54);
        int[][] due = {{9, 9, 9, 9, 8, 13, 22}, {1, 0, 9, 9, 9, 27, 28}, {8, 8, 8, 0, 0, 1, 3}, {9, 0, 9, 9, 9, 3, 4},
            {6, 6, 0, 0, 0, 0, 1}, {0, 0, 9, 9, 9, 1, 1}, {0, 9, 1, 0, 0, 1, 10}};
        for (int[] d : due) {
            Due.row(x, 0, 0, d[0], d[1], d[2], d[3], d[4]);
            likely(d[5] + " of " + d[6], x, 0, d[5], d[6]);
        }
    }

    /** "ARMS that are 40, 20 less, as told, 20, 40 more (0 .. 999)": three seconds by 9 and 9 take 54 */
    private static void moreByArmsAtTheirEdges() {
        EmberDrill x = woods(0, 0, 20, "h;p9903");
        Due.row(x, 0, 0, 1, 1, 1, 1, 1);
        int[][] due = {{0, 0, 1}, {13, 0, 1}, {14, 1, 5}, {33, 1, 5}, {34, 2, 5}, {53, 2, 5}, {54, 3, 5}, {73, 3, 5},
            {74, 4, 5}, {93, 4, 5}, {94, 1, 1}, {959, 1, 1}, {960, 1, 1}, {999, 1, 1}};
        for (int[] d : due) {
            x.tell(ARMS, d[0]);
            likely("arms " + d[0], x, 0, d[1], d[2]);
            DUE.is("they stay as told", d[0], x.told(0));
        }
    }

    /** Of the same: 100 seconds by 5 and 5 take 1000, and all of them are needed for 97 of dust. */
    private static void moreByArmsOf999() {
        EmberDrill x = woods(0, 9, 20, "b;p5560;p5540");
        x.wood(0, 8, 0, 20);
        x.take(0, 1);
        x.tell(HEAP, 97);
        int[][] weights = {{0, 0, 0, 0, 1}, {0, 0, 0, 1, 0}, {0, 0, 1, 0, 0}};
        int[][] arms = {{958, 959, 960, 999}, {978, 979, 980, 999}, {998, 999}};
        for (int w = 0; w < 3; w++) {
            Due.row(x, 0, 0, weights[w]);
            for (int a : arms[w]) {
                x.tell(ARMS, a);
                likely("arms " + a + ": it tires in the last", x, 0, 0, 1);
                likely("arms " + a + ": it is strong again", x, 1, 1, 1);
            }
        }
    }

    /** "MORE, by five cells": those ahead of them and behind them do not count. */
    private static void moreOfItsOwnFiveCells() {
        EmberDrill x = woods(0, 0, 20, "h;p9903");
        Due.row(x, 0, 0, 9, 0, 1, 0, 1, 0, 9);
        DUE.is("upper", 1, x.more(0, 0, 0, 1, 0));
        DUE.is("lower", 1, x.more(0, 0, 0, 1, 1));
        Due.row(x, 0, 0, 99, 1, 1, 1, 1, 1, -99);
        x.tell(ARMS, 54);
        DUE.is("upper", 3, x.more(0, 0, 0, 1, 0));
        DUE.is("lower", 5, x.more(0, 0, 0, 1, 1));
        DUE.is("one ahead of them", EmberDrill.LOST, x.more(0, 0, 0, 0, 1));
        DUE.is("one behind them", EmberDrill.LOST, x.more(0, 0, 0, 2, 1));
        DUE.is("no fault", 0, x.fault());
    }

    /** "INDEX: 5 cells" */
    private static void moreFromTheEndOfARow() {
        EmberDrill x = woods(0, 0, 20, "h;p9903");
        x.sheet(0, 0, 60);
        for (int i = 55; i < 60; i++) x.put(0, i, 1);
        DUE.is("the last five", 1, x.more(0, 0, 0, 55, 0));
        DUE.is("no fault", 0, x.fault());
        for (int i : new int[] {56, 59, 60, 61, -1, -5, Integer.MAX_VALUE, Integer.MIN_VALUE}) {
            DUE.is("from " + i + " on", EmberDrill.LOST, x.more(0, 0, 0, i, 0));
            DUE.is("index", 3, x.fault());
        }
        DUE.is("all 0", EmberDrill.LOST, x.more(0, 0, 0, 50, 0));
        DUE.is("no fault", 0, x.fault());
        DUE.is("the last but four", 1, x.more(0, 0, 0, 51, 0));
        for (int length = 0; length < 5; length++) {
            x.sheet(0, 0, length);
            DUE.is("a row of " + length, EmberDrill.LOST, x.more(0, 0, 0, 0, 0));
            DUE.is("index", 3, x.fault());
        }
        Due.row(x, 0, 0, 1, 1, 1, 1, 1);
        DUE.is("a row of 5", 1, x.more(0, 0, 0, 0, 0));
    }

    private static void moreOfEachLane() {
        EmberDrill x = woods(0, 0, 20, "h;p9903");
        x.tell(ARMS, 54);
        for (int lane = 0; lane < 3; lane++) {
            Due.row(x, lane, lane, 9, 9, 9, 9, 8);
            DUE.is("upper", 13, x.more(0, lane, lane, 0, 0));
            DUE.is("lower", 22, x.more(0, lane, lane, 0, 1));
            DUE.is("another lane", EmberDrill.LOST, x.more(0, lane, (lane + 1) % 3, 0, 1));
            DUE.is("cast", 2, x.fault());
        }
    }

    /** "OUTSIDE: a weight, all 0" */
    private static void moreIsRefusedByWeights() {
        EmberDrill x = woods(0, 0, 20, "h;p9903");
        for (int g = 0; g < 5; g++) {
            for (int wrong : new int[] {-1, 10, 127, -128}) {
                int[] weights = {1, 1, 1, 1, 1};
                weights[g] = wrong;
                Due.row(x, 0, 0, weights);
                DUE.is("a weight of " + wrong, EmberDrill.LOST, x.more(0, 0, 0, 0, 0));
                DUE.is("no fault", 0, x.fault());
            }
        }
        Due.row(x, 0, 0, 0, 0, 0, 0, 0);
        DUE.is("all 0", EmberDrill.LOST, x.more(0, 0, 0, 0, 0));
        DUE.is("no fault", 0, x.fault());
        Due.row(x, 0, 0, 1, -1, 0, 0, 0);
        DUE.is("a sum of 0", EmberDrill.LOST, x.more(0, 0, 0, 0, 0));
        Due.row(x, 1, 2, Integer.MAX_VALUE, Integer.MAX_VALUE, 3, 0, 0);
        DUE.is("a sum that wraps", EmberDrill.LOST, x.more(0, 1, 2, 0, 0));
    }
}

/** Block 4 of the document, promises 18 to 20, at its edges: each method says which sentence it tests. */
public final class ReadingEdgesTest {
    private static final Due DUE = new Due("ReadingEdgesTest");
    private static final int OUTSIDE = EmberDrill.OUTSIDE, STATE = EmberDrill.STATE, FULL = EmberDrill.FULL,
        NONE = EmberDrill.NONE;
    private static final int HEAT = 0, DUST = 1, WATER = 2;
    private static final int LEAST = Integer.MIN_VALUE, MOST = Integer.MAX_VALUE;

    public static void main(String[] args) {
        eightAtMost();
        firstAndLastSecond();
        withoutADrill();
        ofADrillWithoutSeconds();
        anyNumberIsAValue();
        backOfNone();
        backOfSomeAndAll();
        theLastOnesGo();
        noReadingsFitAll();
        noWoodsFitNone();
        oneWood();
        thirtySixPairs();
        theLastPair();
        theFirstPair();
        noPair();
        theEighthCounts();
        atEachEndOfTheDrill();
        DUE.end();
    }

    private static void fits(String call, EmberDrill x, int pairs, int first) {
        DUE.is(call + ": pairs", pairs, x.fits(0));
        DUE.is(call + ": the first", first, x.fits(1));
    }

    /** Six WOODS, all dry but the last one. */
    private static EmberDrill sixWoods(String text) {
        EmberDrill x = new EmberDrill();
        for (int w = 0; w < 6; w++) x.wood(0, 4, w == 5 ? 1 : 0, 20);
        x.tell(2, 0);
        DUE.holds("a text: " + text, Due.drill(x, text) > 0);
        return x;
    }

    /** "READINGS, 8 at most" */
    private static void eightAtMost() {
        EmberDrill x = sixWoods("h;r10");
        for (int r = 0; r < 8; r++) {
            DUE.is("many", r, x.many(2));
            DUE.is("its number", r, x.reading(r, WATER, 0));
        }
        DUE.is("a ninth", FULL, x.reading(0, HEAT, 77));
        DUE.is("a ninth that is wrong", OUTSIDE, x.reading(11, HEAT, 77));
        DUE.is("many", 8, x.many(2));
        fits("the eight are as they were", x, 25, 0);
        DUE.is("one back", 7, x.back(1));
        DUE.is("room for one", 7, x.reading(0, WATER, 2));
        DUE.is("and no more", FULL, x.reading(0, WATER, 2));
        fits("it counts", x, 0, NONE);
    }

    /** "OUTSIDE: second (0 .. SECONDS in all" */
    private static void firstAndLastSecond() {
        EmberDrill x = sixWoods("b;r60;r60;r60;r60;r60;r60;r60;r60");
        DUE.is("0", 0, x.reading(0, HEAT, 0));
        DUE.is("480", 1, x.reading(480, HEAT, 0));
        for (int s : new int[] {-1, 481, LEAST, MOST}) DUE.is("second " + s, OUTSIDE, x.reading(s, HEAT, 0));
        for (int what : new int[] {-1, 3, LEAST, MOST}) DUE.is("what " + what, OUTSIDE, x.reading(0, what, 0));
        DUE.is("what 2", 2, x.reading(480, WATER, 0));
        DUE.is("many", 3, x.many(2));
        fits("dry ones", x, 25, 0);
    }

    /** "without a DRILL 0" */
    private static void withoutADrill() {
        EmberDrill x = Due.dryWoods();
        for (int s : new int[] {-1, 1, LEAST, MOST}) DUE.is("second " + s, OUTSIDE, x.reading(s, HEAT, 0));
        DUE.is("what 3", OUTSIDE, x.reading(0, 3, 0));
        DUE.is("what -1", OUTSIDE, x.reading(0, -1, 0));
        DUE.is("second 0", STATE, x.reading(0, WATER, 0));
        DUE.is("many", 0, x.many(2));
        DUE.is("fits 2", OUTSIDE, x.fits(2));
        DUE.is("fits", STATE, x.fits(1));
    }

    private static void ofADrillWithoutSeconds() {
        EmberDrill x = sixWoods("h;s");
        DUE.is("second 1", OUTSIDE, x.reading(1, HEAT, 0));
        DUE.is("second 0", 0, x.reading(0, WATER, 2));
        fits("the wet one and itself", x, 1, 35);
    }

    /** "was v" */
    private static void anyNumberIsAValue() {
        for (int v : new int[] {LEAST, -1, 1, MOST}) {
            for (int what = 0; what < 3; what++) {
                EmberDrill x = Due.dryWoods();
                Due.drill(x, "h;r01");
                DUE.is("v " + v, 0, x.reading(0, what, v));
                fits("none has it", x, 0, NONE);
            }
        }
    }

    /** "The last k READINGS (0 .. as many as there are)": there are none */
    private static void backOfNone() {
        EmberDrill x = new EmberDrill();
        DUE.is("0", 0, x.back(0));
        for (int k : new int[] {1, -1, LEAST, MOST}) DUE.is("back " + k, OUTSIDE, x.back(k));
        Due.drill(x, "h;s");
        DUE.is("0", 0, x.back(0));
        DUE.is("1", OUTSIDE, x.back(1));
    }

    /** "are taken back: how many are left" */
    private static void backOfSomeAndAll() {
        EmberDrill x = sixWoods("h;r10");
        for (int r = 0; r < 8; r++) x.reading(r, WATER, 0);
        for (int k : new int[] {9, -1, LEAST, MOST}) DUE.is("back " + k, OUTSIDE, x.back(k));
        DUE.is("none went", 8, x.many(2));
        DUE.is("0", 8, x.back(0));
        DUE.is("1", 7, x.back(1));
        DUE.is("8 of 7", OUTSIDE, x.back(8));
        DUE.is("7 of 7", 0, x.back(7));
        DUE.is("many", 0, x.many(2));
        DUE.is("the next is the first", 0, x.reading(0, WATER, 0));
    }

    private static void theLastOnesGo() {
        EmberDrill x = sixWoods("h;r10");
        x.reading(0, WATER, 1);
        x.reading(0, WATER, 2);
        x.reading(0, WATER, 3);
        fits("all of them", x, 0, NONE);
        x.back(2);
        fits("the first is left: a wet one and a dry one", x, 10, 5);
    }

    /** "FITS: pairs of WOODS (6 times SPINDLE and BOARD) by which all were so": all of no READINGS */
    private static void noReadingsFitAll() {
        EmberDrill x = new EmberDrill();
        Due.drill(x, "h;r01");
        for (int w = 1; w <= 6; w++) {
            x.wood(w % 3, w, w, 20 + w);
            fits(w + " woods", x, w * w, 0);
        }
    }

    private static void noWoodsFitNone() {
        EmberDrill x = new EmberDrill();
        Due.drill(x, "h;r01");
        fits("no woods", x, 0, NONE);
        x.reading(0, HEAT, 0);
        fits("no woods", x, 0, NONE);
    }

    private static void oneWood() {
        EmberDrill x = new EmberDrill();
        x.wood(0, 0, 15, 20);
        Due.drill(x, "h;r01");
        x.reading(1, WATER, 30);
        fits("itself twice", x, 1, 0);
        x.reading(1, WATER, 15);
        fits("not once", x, 0, NONE);
    }

    private static void thirtySixPairs() {
        EmberDrill x = sixWoods("h;p9904");
        x.reading(0, HEAT, 0);
        x.reading(0, DUST, 0);
        fits("all", x, 36, 0);
        x.reading(0, WATER, 0);
        fits("dry ones", x, 25, 0);
    }

    private static void theLastPair() {
        EmberDrill x = sixWoods("h;p9904");
        x.reading(0, WATER, 2);
        fits("5 and 5", x, 1, 35);
    }

    private static void theFirstPair() {
        EmberDrill x = sixWoods("h;p9904");
        x.reading(0, WATER, 1);
        fits("0 and 5 ahead of 5 and 0", x, 10, 5);
    }

    private static void noPair() {
        EmberDrill x = sixWoods("h;p9904");
        x.reading(0, WATER, 3);
        fits("none", x, 0, NONE);
        DUE.is("what 2", OUTSIDE, x.fits(2));
        DUE.is("what -1", OUTSIDE, x.fits(-1));
    }

    private static void theEighthCounts() {
        EmberDrill x = sixWoods("h;p9904");
        for (int r = 0; r < 7; r++) x.reading(0, WATER, 1);
        fits("seven times the same", x, 10, 5);
        x.reading(0, WATER, 0);
        fits("the eighth is another", x, 0, NONE);
        x.back(1);
        x.reading(0, WATER, 1);
        fits("eight times the same", x, 10, 5);
    }

    /** "behind so many SECONDS of the DRILL" */
    private static void atEachEndOfTheDrill() {
        EmberDrill x = sixWoods("b;p5504;s");
        x.reading(4, HEAT, 100);
        fits("four times 25", x, 25, 0);
        x.reading(4, DUST, 6);
        fits("dust of the last", x, 25, 0);
        x.reading(3, DUST, 0);
        fits("none ahead of it", x, 25, 0);
        x.reading(3, DUST, 6);
        fits("not yet", x, 0, NONE);
        x.back(4);
        x.reading(4, HEAT, 98);
        fits("of 1 of water", x, 10, 5);
        x.reading(4, DUST, 0);
        fits("and no dust", x, 10, 5);
        DUE.is("no spindle is needed", NONE, x.told(4));
    }
}

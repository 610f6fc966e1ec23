/** Promises 18 to 20. */
public final class ReadingsTest {
    private static final Due DUE = new Due("ReadingsTest");

    public static void main(String[] args) {
        reading();
        back();
        fits();
        fitsWithoutWoods();
        DUE.end();
    }

    private static void reading() {
        EmberDrill x = new EmberDrill();
        DUE.is("second 1 without a drill", EmberDrill.OUTSIDE, x.reading(1, 0, 0));
        DUE.is("what 3 without a drill", EmberDrill.OUTSIDE, x.reading(0, 3, 0));
        DUE.is("without a drill", EmberDrill.STATE, x.reading(0, 0, 0));
        Due.drill(x, "h;r10");
        DUE.is("second 11", EmberDrill.OUTSIDE, x.reading(11, 0, 0));
        DUE.is("second -1", EmberDrill.OUTSIDE, x.reading(-1, 0, 0));
        DUE.is("what 3", EmberDrill.OUTSIDE, x.reading(0, 3, 0));
        DUE.is("what -1", EmberDrill.OUTSIDE, x.reading(0, -1, 0));
        for (int k = 0; k < 8; k++) DUE.is("reading", k, x.reading(10, k % 3, Integer.MIN_VALUE + k));
        DUE.is("a ninth", EmberDrill.FULL, x.reading(0, 0, 0));
        DUE.is("a ninth that is wrong", EmberDrill.OUTSIDE, x.reading(11, 0, 0));
        DUE.is("many", 8, x.many(2));
    }

    private static void back() {
        EmberDrill x = new EmberDrill();
        DUE.is("none", 0, x.back(0));
        DUE.is("of none", EmberDrill.OUTSIDE, x.back(1));
        Due.drill(x, "h;r10");
        for (int k = 0; k < 5; k++) x.reading(k, 0, k);
        DUE.is("6", EmberDrill.OUTSIDE, x.back(6));
        DUE.is("-1", EmberDrill.OUTSIDE, x.back(-1));
        DUE.is("2", 3, x.back(2));
        DUE.is("the next", 3, x.reading(0, 0, 0));
        DUE.is("0", 4, x.back(0));
        DUE.is("4", 0, x.back(4));
        DUE.is("many", 0, x.many(2));
    }

    private static void fits() {
        EmberDrill x = new EmberDrill();
        x.wood(0, 5, 3, 20);
        x.wood(1, 5, 4, 20);
        x.wood(0, 5, 5, 20);
        x.tell(2, 0);
        DUE.is("what 2, no drill", EmberDrill.OUTSIDE, x.fits(2));
        DUE.is("no drill", EmberDrill.STATE, x.fits(0));
        Due.drill(x, "b;p4505;r05");
        DUE.is("all", 9, x.fits(0));
        DUE.is("the first of all", 0, x.fits(1));
        x.reading(0, 2, 8);
        DUE.is("water 8: 0 and 2, 1 and 1, 2 and 0", 3, x.fits(0));
        DUE.is("the first: 0 and 2", 2, x.fits(1));
        x.reading(10, 0, 84);
        DUE.is("heat is the same by all", 3, x.fits(0));
        x.reading(10, 1, 0);
        DUE.is("no dust below 100", 3, x.fits(0));
        x.back(2);
        Due.drill(x, "b;p4510;r05");
        DUE.is("readings went with the drill", 9, x.fits(0));
        x.reading(0, 2, 8);
        x.reading(15, 1, 8 * 5);
        DUE.is("dust of two that are soft", 1, x.fits(0));
        DUE.is("1 and 1", 7, x.fits(1));
        x.reading(5, 2, 1);
        DUE.is("none", 0, x.fits(0));
        DUE.is("no first", EmberDrill.NONE, x.fits(1));
        x.back(1);
        DUE.is("one again", 1, x.fits(0));
        x.tell(0, 0);
        DUE.is("arms count", 0, x.fits(0));
        DUE.is("what -1", EmberDrill.OUTSIDE, x.fits(-1));
        x.tell(0, 300);
        x.wood(1, 5, 4, 20);
        DUE.is("with another like it: 1 3, 3 1, 3 3, too", 4, x.fits(0));
        DUE.is("still 1 and 1", 7, x.fits(1));
        x.back(2);
        x.reading(0, 2, 9);
        DUE.is("4 and 5, either way, either 4", 4, x.fits(0));
        DUE.is("6 times spindle and board", 8, x.fits(1));
    }

    private static void fitsWithoutWoods() {
        EmberDrill x = new EmberDrill();
        Due.drill(x, "h;s");
        DUE.is("none", 0, x.fits(0));
        DUE.is("no first", EmberDrill.NONE, x.fits(1));
    }
}

/** Block 5 of the document, promises 21 to 24, at its edges: each method says which sentence it tests. */
public final class NestEdgesTest {
    private static final Due DUE = new Due("NestEdgesTest");
    private static final int UNKNOWN = EmberDrill.UNKNOWN, OUTSIDE = EmberDrill.OUTSIDE, STATE = EmberDrill.STATE,
        NONE = EmberDrill.NONE;

    public static void main(String[] args) {
        glimmerOfTheSecondOfTheEmber();
        looseTimesBlowIsCut();
        lessByTenLessDry();
        lessByBlowAboveSix();
        upToSixtySeconds();
        aFlameFrom100On();
        outAt0();
        blowOfAll();
        blowOfSeveral();
        blowByNone();
        carriedFrom5On();
        carriedByEachHorn();
        statesInOrder();
        oneThing();
        fiveThings();
        noneLacksAnything();
        sumsThatAreAlike();
        oneToTwelve();
        bitsOfNone();
        onlyItsOwnCells();
        whichIsTaught();
        lessonsOfEachLane();
        DUE.end();
    }

    /** 3 of dust a second from heat 108 in the twelfth on: 102 in the 45th. */
    private static EmberDrill glimmerOf102() {
        EmberDrill x = new EmberDrill();
        x.wood(0, 0, 0, 40);
        x.wood(1, 0, 0, 20);
        x.take(0, 1);
        x.tell(0, 999);
        x.tell(2, 0);
        Due.drill(x, "b;p1960");
        DUE.is("ember", 45, x.ember());
        DUE.is("dust", 102, x.at(45, 1));
        return x;
    }

    /** "GLIMMER is DUST behind the SECOND of AN EMBER", not at the end */
    private static void glimmerOfTheSecondOfTheEmber() {
        EmberDrill x = Due.glimmerOf(99);
        DUE.is("dust", 99, x.at(x.ember(), 1));
        DUE.is("dust as long as it is strong", 107, x.at(111, 1));
        DUE.is("99 and nothing", NONE, x.nest(9, 1, 4));
        DUE.is("99 and 1", 1, x.nest(9, 2, 4));
    }

    /** "more by loose times b by 4" */
    private static void looseTimesBlowIsCut() {
        EmberDrill x = Due.glimmerOf(99);
        DUE.is("7 by 4 less 1", NONE, x.nest(9, 7, 1));
        DUE.is("8 by 4 less 1", 1, x.nest(9, 8, 1));
        DUE.is("0 by 4 less 1", NONE, x.nest(9, 0, 6));
        DUE.is("9 times 6 by 4 less 10", 1, x.nest(0, 9, 6));
        DUE.is("9 times 5 by 4 less 10", 1, x.nest(0, 9, 5));
        DUE.is("7 times 6 by 4 less 10", NONE, x.nest(0, 7, 6));
        x = Due.glimmerOf(60);
        DUE.is("9 times 6 by 4 less 1 is 12: 4 seconds are 48", 4, x.nest(9, 9, 6));
        DUE.is("9 times 3 by 4 less 1 is 5: 8 seconds are 40", 8, x.nest(9, 9, 3));
    }

    /** "less by 10 less dry" */
    private static void lessByTenLessDry() {
        EmberDrill x = Due.glimmerOf(40);
        int[] due = {20, 15, 12, 10, 9, 8, 7, 6, 6, 5};
        for (int dry = 0; dry < 10; dry++) DUE.is("13 less " + (10 - dry), due[dry], x.nest(dry, 9, 6));
    }

    /** "less by b, if b is above 6" */
    private static void lessByBlowAboveSix() {
        EmberDrill x = Due.glimmerOf(40);
        DUE.is("6: 13 less 1 is 12", 5, x.nest(9, 9, 6));
        DUE.is("7: 15 less 1 less 7 is 7", 9, x.nest(9, 9, 7));
        DUE.is("8: 18 less 1 less 8 is 9", 7, x.nest(9, 9, 8));
        DUE.is("9: 20 less 1 less 9 is 10", 6, x.nest(9, 9, 9));
    }

    /** "in each of up to 60 SECONDS" */
    private static void upToSixtySeconds() {
        DUE.is("40 and 60 times 1", 60, Due.glimmerOf(40).nest(9, 2, 4));
        DUE.is("41 and 59 times 1", 59, Due.glimmerOf(41).nest(9, 2, 4));
        DUE.is("39 and 60 times 1 are 99", NONE, Due.glimmerOf(39).nest(9, 2, 4));
    }

    /** "100 or more: a FLAME" */
    private static void aFlameFrom100On() {
        DUE.is("99 and 1", 1, Due.glimmerOf(99).nest(9, 2, 4));
        DUE.is("98 and 1", 2, Due.glimmerOf(98).nest(9, 2, 4));
        DUE.is("98 and 12", 1, Due.glimmerOf(98).nest(9, 9, 6));
        EmberDrill x = glimmerOf102();
        DUE.is("102 less 1", 1, x.nest(9, 0, 1));
        DUE.is("102 less 2", 1, x.nest(8, 0, 1));
        DUE.is("102 less 3", NONE, x.nest(7, 0, 1));
        DUE.is("102 less 10", NONE, x.nest(0, 0, 1));
    }

    /** "0 or less: it is out" */
    private static void outAt0() {
        DUE.is("10 less 10", NONE, Due.glimmerOf(10).nest(0, 0, 1));
        DUE.is("10 less 19", NONE, Due.glimmerOf(10).nest(0, 0, 9));
        DUE.is("11 less 10", NONE, Due.glimmerOf(11).nest(0, 0, 1));
    }

    /** "BLOW: the b by which the FLAME comes first", of all b from 1 to 9 */
    private static void blowOfAll() {
        DUE.is("102 less 1 by any: the least", 1, glimmerOf102().blow(9, 0));
        DUE.is("13 less 1 by 6", 6, Due.glimmerOf(6).blow(9, 9));
        DUE.is("1 times 6 by 4 less 1 is 0", NONE, Due.glimmerOf(99).blow(9, 1));
        DUE.is("99 and 2 less 1 by 4", 4, Due.glimmerOf(99).blow(9, 2));
    }

    /** "of several the least" */
    private static void blowOfSeveral() {
        DUE.is("99 and 1, by 1 on", 1, Due.glimmerOf(99).blow(9, 8));
        DUE.is("97 and 3, by 2 on", 2, Due.glimmerOf(97).blow(9, 8));
        DUE.is("95 and 5, by 3 on", 3, Due.glimmerOf(95).blow(9, 8));
        DUE.is("89 and 11, by 6 alone", 6, Due.glimmerOf(89).blow(9, 8));
        DUE.is("88 and twice 7, by 4 on", 4, Due.glimmerOf(88).blow(9, 8));
    }

    /** "NONE: no FLAME comes by any" */
    private static void blowByNone() {
        EmberDrill x = Due.glimmerOf(99);
        DUE.is("not loose", NONE, x.blow(9, 0));
        DUE.is("wet", NONE, x.blow(0, 7));
        DUE.is("wet, but loose: 8 times 6 by 4 less 10", 6, x.blow(0, 8));
    }

    /** "behind how many HOURS on end it is 5 or more" */
    private static void carriedFrom5On() {
        DUE.is("6, 5, 4", 1, Due.glimmerOf(6).carried(9));
        DUE.is("7, 6, 5, 4", 2, Due.glimmerOf(7).carried(9));
        DUE.is("10, 4", 0, Due.glimmerOf(10).carried(2));
        DUE.is("11, 5, 2", 1, Due.glimmerOf(11).carried(2));
        DUE.is("12, 5, 2", 1, Due.glimmerOf(12).carried(2));
        DUE.is("6, 2", 0, Due.glimmerOf(6).carried(2));
        DUE.is("8, 5, 3", 1, Due.glimmerOf(8).carried(3));
        EmberDrill x = new EmberDrill();
        x.wood(0, 9, 0, 20);
        x.wood(0, 8, 0, 20);
        x.take(0, 1);
        x.tell(1, 9);
        x.tell(2, 0);
        x.tell(3, 1);
        Due.drill(x, "h;p9903");
        DUE.is("2 of dust", 2, x.at(3, 1));
        DUE.is("it was below 5 at first", 0, x.carried(9));
        Due.drill(x, "b;p5508");
        DUE.is("5 of dust", 5, x.at(8, 1));
        DUE.is("5 at first, 4", 0, x.carried(9));
    }

    /** "by a horn (2 .. 9), and by 1" */
    private static void carriedByEachHorn() {
        EmberDrill x = Due.glimmerOf(99);
        DUE.is("99, 49, 24, 11, 5", 4, x.carried(2));
        DUE.is("99, 65, 43, 28, 18, 11, 7, 4", 6, x.carried(3));
        DUE.is("87, 77, 68, 60, 53, 47, 41, 36, 31, 27, 23, 20, 17, 15, 13, 11, 9, 7, 6, 5", 20, x.carried(9));
        for (int horn : new int[] {1, 10, 0, -1, Integer.MIN_VALUE, Integer.MAX_VALUE}) {
            DUE.is("horn " + horn, OUTSIDE, x.carried(horn));
        }
    }

    /** "OUTSIDE: dry, loose, b; STATE as ember(), no EMBER comes" */
    private static void statesInOrder() {
        EmberDrill x = Due.glimmerOf(99);
        Due.drill(x, "b;p5460");
        DUE.is("no ember", NONE, x.ember());
        DUE.is("nest", STATE, x.nest(0, 0, 1));
        DUE.is("blow", STATE, x.blow(9, 9));
        DUE.is("carried", STATE, x.carried(2));
        DUE.is("nest 10", OUTSIDE, x.nest(0, 10, 1));
        DUE.is("blow 10", OUTSIDE, x.blow(10, 9));
        DUE.is("carried 10", OUTSIDE, x.carried(10));
        x.tell(3, 56);
        DUE.is("56 of dust in the last", 60, x.ember());
        DUE.is("nest", 4, x.nest(9, 9, 6));
    }

    private static void taught(String call, EmberDrill x, int f, int n, int sum, int... order) {
        DUE.is(call + ": sum", sum, x.lessons(f, 0, 0, 0, n, -1));
        for (int q = 0; q < f; q++) DUE.is(call + ": thing " + q, order[q], x.lessons(f, 0, 0, 0, n, q));
    }

    private static EmberDrill class0(int... lack) {
        EmberDrill x = new EmberDrill();
        Due.row(x, 0, 0, lack);
        return x;
    }

    /** "LESSONS of f things (1 .. 5)" */
    private static void oneThing() {
        taught("who lacks it", class0(1), 1, 1, 1, 0);
        taught("who does not", class0(0), 1, 1, 0, 0);
        taught("twelve", class0(1, 0, 1, 1, 1, 1, 1, 1, 1, 1, 1, 1), 1, 12, 11, 0);
    }

    private static void fiveThings() {
        taught("all", class0(31), 5, 1, 5, 0, 1, 2, 3, 4);
        taught("the last", class0(16), 5, 1, 1, 4, 0, 1, 2, 3);
        taught("twelve who lack all", class0(31, 31, 31, 31, 31, 31, 31, 31, 31, 31, 31, 31), 5, 12, 60, 0, 1, 2, 3, 4);
        taught("from the last on", class0(16, 24, 28, 30, 31), 5, 5, 15, 4, 3, 2, 1, 0);
        for (int f : new int[] {0, 6, -1, 31, 32, 33, Integer.MIN_VALUE, Integer.MAX_VALUE}) {
            DUE.is("f " + f, OUTSIDE, class0(0).lessons(f, 0, 0, 0, 1, -1));
        }
    }

    /** "(0: who lacks nothing)" */
    private static void noneLacksAnything() {
        taught("none", class0(0, 0, 0), 5, 3, 0, 0, 1, 2, 3, 4);
        taught("but one", class0(0, 4, 0), 5, 3, 1, 2, 0, 1, 3, 4);
    }

    /** "of several the first as a row" */
    private static void sumsThatAreAlike() {
        taught("1 and 2 are alike", class0(1, 2), 2, 2, 3, 0, 1);
        taught("2 and 1 are alike", class0(2, 1), 2, 2, 3, 0, 1);
        taught("two lack the second", class0(1, 2, 2), 2, 3, 4, 1, 0);
        taught("any two first", class0(7, 3, 5, 6), 3, 4, 11, 0, 1, 2);
        taught("0 last, then as they come", class0(2, 4, 8, 16), 5, 4, 10, 1, 2, 3, 4, 0);
    }

    /** "a class of n (1 .. 12": 13 cells of which 13 are too many */
    private static void oneToTwelve() {
        EmberDrill x = class0(1, 1, 1, 1, 1, 1, 1, 1, 1, 1, 1, 1, 1);
        for (int n = 1; n <= 12; n++) DUE.is("n " + n, n, x.lessons(1, 0, 0, 0, n, -1));
        DUE.is("13", OUTSIDE, x.lessons(1, 0, 0, 0, 13, -1));
        DUE.is("fault", 0, x.fault());
        DUE.is("14", -13, x.lessons(1, 0, 0, 0, 14, -1));
        DUE.is("12 from 1 on", 12, x.lessons(1, 0, 0, 1, 12, -1));
        DUE.is("12 from 2 on", -13, x.lessons(1, 0, 0, 2, 12, -1));
        DUE.is("the last", 1, x.lessons(1, 0, 0, 12, 1, -1));
        DUE.is("0", OUTSIDE, x.lessons(1, 0, 0, 0, 0, -1));
        DUE.is("0 at the end", OUTSIDE, x.lessons(1, 0, 0, 13, 0, -1));
        DUE.is("0 beyond the end", -13, x.lessons(1, 0, 0, 14, 0, -1));
        DUE.is("0 ahead of it", -13, x.lessons(1, 0, 0, -1, 0, -1));
        DUE.is("-1", -14, x.lessons(1, 0, 0, 0, -1, -1));
        x.sheet(0, 0, 0);
        DUE.is("0 of none", OUTSIDE, x.lessons(1, 0, 0, 0, 0, -1));
        DUE.is("1 of none", -13, x.lessons(1, 0, 0, 0, 1, -1));
    }

    /** "a cell has a bit of none of f things" */
    private static void bitsOfNone() {
        for (int f = 1; f <= 5; f++) {
            int all = (1 << f) - 1;
            DUE.is("all of " + f, f, class0(all).lessons(f, 0, 0, 0, 1, -1));
            for (int wrong : new int[] {all + 1, all + 2, 64, -1, -128, 127}) {
                DUE.is(f + " things, " + wrong, OUTSIDE, class0(wrong).lessons(f, 0, 0, 0, 1, -1));
                DUE.is(f + " things, " + wrong + " the last", OUTSIDE, class0(0, wrong).lessons(f, 0, 0, 0, 2, -1));
                DUE.is("q is wrong, too", OUTSIDE, class0(wrong).lessons(f, 0, 0, 0, 1, 9));
            }
        }
        EmberDrill x = new EmberDrill();
        Due.row(x, 0, 2, Integer.MIN_VALUE, 1 << 30, 31);
        DUE.is("the bit of the sign", OUTSIDE, x.lessons(5, 0, 2, 0, 1, -1));
        DUE.is("bit 30", OUTSIDE, x.lessons(5, 0, 2, 1, 1, -1));
        DUE.is("neither", 5, x.lessons(5, 0, 2, 2, 1, -1));
    }

    private static void onlyItsOwnCells() {
        EmberDrill x = class0(127, 1, 2, 2, -1);
        DUE.is("sum", 4, x.lessons(2, 0, 0, 1, 3, -1));
        DUE.is("the first", 1, x.lessons(2, 0, 0, 1, 3, 0));
        DUE.is("one ahead of them", OUTSIDE, x.lessons(2, 0, 0, 0, 3, 0));
        DUE.is("one behind them", OUTSIDE, x.lessons(2, 0, 0, 1, 4, 0));
    }

    /** "UNKNOWN: q is not -1 .. f - 1" */
    private static void whichIsTaught() {
        for (int f = 1; f <= 5; f++) {
            EmberDrill x = class0(1);
            DUE.is("q -1", 1, x.lessons(f, 0, 0, 0, 1, -1));
            DUE.is("q f - 1", f - 1, x.lessons(f, 0, 0, 0, 1, f - 1));
            for (int q : new int[] {-2, f, Integer.MIN_VALUE, Integer.MAX_VALUE}) {
                DUE.is("q " + q, UNKNOWN, x.lessons(f, 0, 0, 0, 1, q));
            }
        }
    }

    private static void lessonsOfEachLane() {
        for (int lane = 0; lane < 3; lane++) {
            EmberDrill x = new EmberDrill();
            Due.row(x, 3, lane, 16, 8, 8);
            for (int as = 0; as < 3; as++) {
                DUE.is("nothing is no cast", -11, x.lessons(5, 0, as, 0, 3, 0));
                DUE.is("the first", as == lane ? 3 : -12, x.lessons(5, 3, as, 0, 3, 0));
                DUE.is("fault", as == lane ? 0 : 2, x.fault());
            }
        }
    }
}

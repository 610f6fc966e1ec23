/** Block 1 of the document, promises 1 to 7, at its edges: each method says which sentence it tests. */
public final class WoodEdgesTest {
    private static final Due DUE = new Due("WoodEdgesTest");
    private static final int UNKNOWN = EmberDrill.UNKNOWN, OUTSIDE = EmberDrill.OUTSIDE, STATE = EmberDrill.STATE,
        FULL = EmberDrill.FULL, NONE = EmberDrill.NONE;

    public static void main(String[] args) {
        noWoods();
        noSpindle();
        noDrill();
        sheetsHaveNothing();
        sixEver();
        refusedOnesTakeNoNumber();
        leastAndMostOfAWood();
        powderIsCut();
        powderOfTheHardestAndTheLeastHard();
        powderTwiceWhatWasCut();
        pointOfTheLeastAndMostGlow();
        perhapsTheSame();
        takeIsRefusedWhole();
        toldAtFirst();
        toldAtTheirEdges();
        aRefusedTellLeavesAll();
        DUE.end();
    }

    /** "No WOODS" */
    private static void noWoods() {
        EmberDrill x = new EmberDrill();
        DUE.is("many", 0, x.many(0));
        for (int w : new int[] {0, 1, 5, -1}) {
            DUE.is("ofWood", UNKNOWN, x.ofWood(w, 0));
            DUE.is("powder", UNKNOWN, x.powder(w, 1));
            DUE.is("take", UNKNOWN, x.take(w, w));
            DUE.is("go", UNKNOWN, x.go(w));
            DUE.is("say", UNKNOWN, x.say(w));
            DUE.is("stack", UNKNOWN, x.stack(w));
            DUE.is("as", UNKNOWN, x.as(w, 0));
        }
        DUE.is("trace", 0, x.trace());
    }

    /** "(no SPINDLE, no BOARD)", "A SPINDLE (4), A BOARD (5; NONE)" */
    private static void noSpindle() {
        EmberDrill x = Due.dryWoods();
        DUE.is("spindle", NONE, x.told(4));
        DUE.is("board", NONE, x.told(5));
    }

    /** "no DRILL" */
    private static void noDrill() {
        EmberDrill x = Due.dryWoods();
        x.take(0, 0);
        DUE.is("items", 0, x.many(1));
        DUE.is("readings", 0, x.many(2));
        DUE.is("ofItem", UNKNOWN, x.ofItem(0, 0));
        DUE.is("ofDrill", STATE, x.ofDrill(0));
        DUE.is("at", STATE, x.at(0, 0));
        DUE.is("ember", STATE, x.ember());
        DUE.is("comes", STATE, x.comes());
        DUE.is("grid", STATE, x.grid(0));
        DUE.is("finish", STATE, x.finish(0));
        DUE.is("go", STATE, x.go(0));
        DUE.is("reading", STATE, x.reading(0, 0, 0));
        DUE.is("back", 0, x.back(0));
        DUE.is("fits", STATE, x.fits(0));
        DUE.is("nest", STATE, x.nest(0, 0, 1));
        DUE.is("blow", STATE, x.blow(0, 0));
        DUE.is("carried", STATE, x.carried(2));
    }

    /** "SHEETS have nothing" */
    private static void sheetsHaveNothing() {
        EmberDrill x = new EmberDrill();
        for (int k = 0; k < 4; k++) {
            DUE.is("put", -11, x.put(k, 0, 0));
            DUE.is("cell", EmberDrill.LOST, x.cell(k, 0, 0));
            DUE.is("cell: fault", 1, x.fault());
            DUE.is("copy", -11, x.copy(k, 0, k, 0, 0));
            DUE.is("drill", -11, x.drill(k, 0, 0, 0));
            DUE.is("lessons", -11, x.lessons(1, k, 0, 0, 1, 0));
            DUE.is("more", EmberDrill.LOST, x.more(0, k, 0, 0, 0));
            DUE.is("more: fault", 1, x.fault());
            DUE.is("lose", 0, x.lose(k));
        }
    }

    /** "WOODS, 6 ever, numbered as they come", "OUTSIDE; FULL" */
    private static void sixEver() {
        EmberDrill x = new EmberDrill();
        for (int w = 0; w < 6; w++) {
            DUE.is("many ahead", w, x.many(0));
            DUE.is("not yet", UNKNOWN, x.ofWood(w, 0));
            DUE.is("wood", w, x.wood(w % 3, w, 10 + w, 30 + w));
        }
        DUE.is("a seventh", FULL, x.wood(0, 0, 0, 20));
        DUE.is("an eighth", FULL, x.wood(2, 9, 30, 60));
        DUE.is("many", 6, x.many(0));
        for (int w = 0; w < 6; w++) {
            DUE.is("kind", w % 3, x.ofWood(w, 0));
            DUE.is("hard", w, x.ofWood(w, 1));
            DUE.is("wet", 10 + w, x.ofWood(w, 2));
            DUE.is("glow", 30 + w, x.ofWood(w, 3));
        }
        DUE.is("no wood 6", UNKNOWN, x.ofWood(6, 0));
        DUE.is("the last is a spindle", 1, x.take(5, 0));
        DUE.is("there is no 6 to take", UNKNOWN, x.take(5, 6));
    }

    private static void refusedOnesTakeNoNumber() {
        EmberDrill x = new EmberDrill();
        DUE.is("wrong", OUTSIDE, x.wood(3, 0, 0, 20));
        DUE.is("the first", 0, x.wood(1, 2, 3, 24));
        DUE.is("wrong", OUTSIDE, x.wood(0, 0, 0, 61));
        DUE.is("the second", 1, x.wood(2, 2, 3, 24));
        DUE.is("the first is as it was", 1, x.ofWood(0, 0));
    }

    /** "HARD (0 .. 9), WET (0 .. 30), GLOW (20 .. 60), of a kind: 0 .. 2" */
    private static void leastAndMostOfAWood() {
        EmberDrill x = new EmberDrill();
        int[][] edges = {{0, 0, 0, 20}, {2, 9, 30, 60}, {0, 9, 0, 60}, {1, 0, 30, 20}};
        for (int w = 0; w < edges.length; w++) {
            int[] e = edges[w];
            DUE.is("wood", w, x.wood(e[0], e[1], e[2], e[3]));
            for (int what = 0; what < 4; what++) DUE.is("what " + what, e[what], x.ofWood(w, what));
        }
    }

    /** "POWDER by a press p: p times (10 less HARD) by 10", "Quotients are cut" */
    private static void powderIsCut() {
        EmberDrill x = new EmberDrill();
        x.wood(0, 1, 0, 20);
        DUE.is("9 by 10", 0, x.powder(0, 1));
        DUE.is("18 by 10", 1, x.powder(0, 2));
        DUE.is("81 by 10", 8, x.powder(0, 9));
        x.wood(0, 5, 0, 20);
        DUE.is("5 by 10", 0, x.powder(1, 1));
        DUE.is("10 by 10", 1, x.powder(1, 2));
        DUE.is("45 by 10", 4, x.powder(1, 9));
    }

    private static void powderOfTheHardestAndTheLeastHard() {
        EmberDrill x = new EmberDrill();
        x.wood(0, 0, 0, 20);
        x.wood(0, 9, 0, 20);
        for (int press = 1; press <= 9; press++) {
            DUE.is("hard 0", press, x.powder(0, press));
            DUE.is("hard 9", 0, x.powder(1, press));
        }
    }

    /** "of a SOFT one (a PITCHY one, too) twice that" */
    private static void powderTwiceWhatWasCut() {
        EmberDrill x = new EmberDrill();
        for (int kind = 1; kind <= 2; kind++) {
            int w = x.wood(kind, 5, 0, 20);
            DUE.is("twice 0", 0, x.powder(w, 1));
            DUE.is("twice 1, cut from 15", 2, x.powder(w, 3));
            DUE.is("twice 4, cut from 45", 8, x.powder(w, 9));
            w = x.wood(kind, 0, 0, 20);
            DUE.is("twice 9", 18, x.powder(w, 9));
            w = x.wood(kind, 9, 0, 20);
            DUE.is("twice 0, cut from 9", 0, x.powder(w, 9));
        }
    }

    /** "POINT: 10 times GLOW; of a PITCHY one 50 more" */
    private static void pointOfTheLeastAndMostGlow() {
        EmberDrill x = new EmberDrill();
        int[] points = {200, 200, 250, 600, 600, 650};
        for (int w = 0; w < 6; w++) {
            x.wood(w % 3, 0, 0, w < 3 ? 20 : 60);
            DUE.is("point", points[w], x.ofWood(w, 4));
        }
    }

    /** "A SPINDLE and A BOARD are WOODS (perhaps the same)" */
    private static void perhapsTheSame() {
        EmberDrill x = Due.dryWoods();
        DUE.is("the last one and itself", 1, x.take(2, 2));
        DUE.is("spindle", 2, x.told(4));
        DUE.is("board", 2, x.told(5));
        DUE.is("the first one and the last", 1, x.take(0, 2));
        DUE.is("spindle", 0, x.told(4));
        DUE.is("board", 2, x.told(5));
    }

    private static void takeIsRefusedWhole() {
        EmberDrill x = Due.dryWoods();
        x.take(2, 1);
        DUE.is("no board", UNKNOWN, x.take(0, 3));
        DUE.is("spindle stays", 2, x.told(4));
        DUE.is("no spindle", UNKNOWN, x.take(3, 0));
        DUE.is("board stays", 1, x.told(5));
        DUE.is("below 0", UNKNOWN, x.take(0, -9));
        DUE.is("spindle stays", 2, x.told(4));
    }

    /** "ARMS (0 .. 999; 300 at first), GRIP (1 .. 9; 6), COLD (0 .. 20; 5), HEAP (1 .. 99; 20) are told" */
    private static void toldAtFirst() {
        EmberDrill x = new EmberDrill();
        DUE.is("arms", 300, x.told(0));
        DUE.is("grip", 6, x.told(1));
        DUE.is("cold", 5, x.told(2));
        DUE.is("heap", 20, x.told(3));
    }

    private static void toldAtTheirEdges() {
        int[][] edges = {{300, 0, 999}, {6, 1, 9}, {5, 0, 20}, {20, 1, 99}};
        for (int what = 0; what < 4; what++) {
            EmberDrill x = new EmberDrill();
            int[] e = edges[what];
            DUE.is("the least: what it was", e[0], x.tell(what, e[1]));
            DUE.is("the least is told", e[1], x.told(what));
            DUE.is("the most: what it was", e[1], x.tell(what, e[2]));
            DUE.is("the most is told", e[2], x.told(what));
            DUE.is("the same again", e[2], x.tell(what, e[2]));
            DUE.is("it stays", e[2], x.told(what));
        }
    }

    private static void aRefusedTellLeavesAll() {
        int[][] wrong = {{0, -1}, {0, 1000}, {1, 0}, {1, 10}, {2, -1}, {2, 21}, {3, 0}, {3, 100}, {4, 5}, {5, 5}, {-1, 5}};
        EmberDrill x = Due.dryWoods();
        x.take(2, 1);
        for (int[] w : wrong) {
            DUE.is("tell " + w[0] + " " + w[1], OUTSIDE, x.tell(w[0], w[1]));
            int[] due = {300, 6, 5, 20, 2, 1};
            for (int what = 0; what < 6; what++) DUE.is("told " + what, due[what], x.told(what));
        }
    }
}

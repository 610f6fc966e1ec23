/** Block 6 of the document, promises 25 to 35, at its edges: each method says which sentence it tests. */
public final class SheetEdgesTest {
    private static final Due DUE = new Due("SheetEdgesTest");
    private static final int UNKNOWN = EmberDrill.UNKNOWN, OUTSIDE = EmberDrill.OUTSIDE;
    private static final long LOST = EmberDrill.LOST;
    private static final int NULL = 1, CAST = 2, INDEX = 3, SIZE = 4;
    private static final int LEAST = Integer.MIN_VALUE, MOST = Integer.MAX_VALUE;

    public static void main(String[] args) {
        sheets0To3();
        aRowOf0Cells();
        aRowOf60Cells();
        aLengthThatIsNone();
        aNewRowIs0();
        aNewRowOfAnotherLane();
        aRefusedRowLeavesTheOld();
        loseOfNothing();
        loseOfARowOf0Cells();
        bytesWrap();
        shortsWrap();
        intsAreWhole();
        firstAndLastCell();
        cellOfAnotherLane();
        cellOfNothing();
        copyOnwardsAndBackwards();
        copyOfAll();
        copyOfNone();
        copyBeyond();
        copyOfUnlikeLanes();
        copyOfNothing();
        copyIsNotCut();
        bodiesOfEachKind();
        numbersOfTheStacked();
        traceWraps();
        aRefusedTellingLeavesNoTrace();
        eachKindAsEach();
        faultAtFirst();
        eachFaultIsTold();
        callsThatNameNone();
        callsThatNameOne();
        howMany();
        DUE.end();
    }

    private static void put(EmberDrill x, int k, int... cells) {
        for (int i = 0; i < cells.length; i++) DUE.is("put", 1, x.put(k, i, cells[i]));
    }

    private static void rowIs(String call, EmberDrill x, int k, int lane, int... due) {
        for (int i = 0; i < due.length; i++) DUE.is(call + ": cell " + i, due[i], x.cell(k, i, lane));
        DUE.is(call + ": no more", LOST, x.cell(k, due.length, lane));
        DUE.is(call + ": index", INDEX, x.fault());
    }

    private static void lost(String call, EmberDrill x, int fault, int k, int i, int lane) {
        DUE.is(call, LOST, x.cell(k, i, lane));
        DUE.is(call + ": fault", fault, x.fault());
    }

    private static void faults(String call, EmberDrill x, int fault, int answer) {
        DUE.is(call, -10 - fault, answer);
        DUE.is(call + ": fault", fault, x.fault());
    }

    /** "SHEETS 0 .. 3" */
    private static void sheets0To3() {
        EmberDrill x = new EmberDrill();
        for (int k : new int[] {-1, 4, LEAST, MOST}) {
            DUE.is("sheet " + k, UNKNOWN, x.sheet(k, 0, 1));
            DUE.is("lose " + k, UNKNOWN, x.lose(k));
            DUE.is("put " + k, UNKNOWN, x.put(k, 0, 0));
            lost("cell " + k, x, 0, k, 0, 0);
            DUE.is("copy " + k, UNKNOWN, x.copy(k, 0, 0, 0, 0));
            DUE.is("copy to " + k, UNKNOWN, x.copy(0, 0, k, 0, 0));
        }
        for (int k = 0; k < 4; k++) {
            DUE.is("sheet " + k, 1, x.sheet(k, 2, 1));
            DUE.is("put " + k, 1, x.put(k, 0, 10 + k));
        }
        for (int k = 0; k < 4; k++) rowIs("each has its own", x, k, 2, 10 + k);
    }

    /** "a row of 0 .. 60 numbers": of none */
    private static void aRowOf0Cells() {
        for (int lane = 0; lane < 3; lane++) {
            EmberDrill x = new EmberDrill();
            DUE.is("sheet", 1, x.sheet(0, lane, 0));
            rowIs("no cell", x, 0, lane);
            faults("put", x, INDEX, x.put(0, 0, 1));
            DUE.is("copy of none", 0, x.copy(0, 0, 0, 0, 0));
            faults("copy of one", x, INDEX, x.copy(0, 0, 0, 0, 1));
            lost("it is of its lane", x, CAST, 0, 0, (lane + 1) % 3);
        }
    }

    private static void aRowOf60Cells() {
        for (int lane = 0; lane < 3; lane++) {
            EmberDrill x = new EmberDrill();
            DUE.is("sheet", 1, x.sheet(3, lane, 60));
            for (int i = 0; i < 60; i++) DUE.is("put", 1, x.put(3, i, i));
            faults("put 60", x, INDEX, x.put(3, 60, 1));
            for (int i = 0; i < 60; i++) DUE.is("cell", i, x.cell(3, i, lane));
            lost("cell 60", x, INDEX, 3, 60, lane);
        }
    }

    /** "OUTSIDE: lane, n above 60; SIZE", "4 SIZE (a length below 0)" */
    private static void aLengthThatIsNone() {
        EmberDrill x = new EmberDrill();
        for (int n : new int[] {61, 1000, MOST}) {
            DUE.is("n " + n, OUTSIDE, x.sheet(0, 0, n));
            DUE.is("fault", 0, x.fault());
        }
        for (int n : new int[] {-1, -61, LEAST}) faults("n " + n, x, SIZE, x.sheet(0, 2, n));
        for (int lane : new int[] {-1, 3, LEAST, MOST}) {
            DUE.is("lane " + lane, OUTSIDE, x.sheet(0, lane, 1));
            DUE.is("lane " + lane + ", n -1", OUTSIDE, x.sheet(0, lane, -1));
            DUE.is("fault", 0, x.fault());
        }
        DUE.is("still nothing", 0, x.lose(0));
    }

    /** "(0 at first)" */
    private static void aNewRowIs0() {
        EmberDrill x = new EmberDrill();
        x.sheet(0, 2, 3);
        rowIs("new", x, 0, 2, 0, 0, 0);
        put(x, 0, 7, 8, 9);
        DUE.is("a shorter one", 1, x.sheet(0, 2, 2));
        rowIs("shorter", x, 0, 2, 0, 0);
        put(x, 0, 5, 6);
        DUE.is("a longer one", 1, x.sheet(0, 2, 4));
        rowIs("longer", x, 0, 2, 0, 0, 0, 0);
        put(x, 0, 1, 2, 3, 4);
        x.lose(0);
        x.sheet(0, 2, 4);
        rowIs("behind nothing", x, 0, 2, 0, 0, 0, 0);
    }

    private static void aNewRowOfAnotherLane() {
        EmberDrill x = new EmberDrill();
        x.sheet(0, 0, 1);
        x.sheet(0, 2, 1);
        put(x, 0, 70001);
        rowIs("ints", x, 0, 2, 70001);
        lost("no bytes", x, CAST, 0, 0, 0);
        x.sheet(0, 1, 1);
        put(x, 0, 70001);
        rowIs("shorts", x, 0, 1, 4465);
        lost("no ints", x, CAST, 0, 0, 2);
    }

    private static void aRefusedRowLeavesTheOld() {
        EmberDrill x = new EmberDrill();
        x.sheet(0, 1, 2);
        put(x, 0, 500, 501);
        x.sheet(0, 0, 61);
        x.sheet(0, 3, 1);
        x.sheet(0, 0, -1);
        rowIs("it stays", x, 0, 1, 500, 501);
    }

    /** "A SHEET has nothing: 1; 0: it had nothing." */
    private static void loseOfNothing() {
        EmberDrill x = new EmberDrill();
        DUE.is("nothing", 0, x.lose(1));
        x.sheet(1, 0, 5);
        DUE.is("something", 1, x.lose(1));
        DUE.is("nothing again", 0, x.lose(1));
        faults("put", x, NULL, x.put(1, 0, 1));
    }

    private static void loseOfARowOf0Cells() {
        EmberDrill x = new EmberDrill();
        x.sheet(1, 0, 0);
        faults("it has no cell", x, INDEX, x.put(1, 0, 1));
        DUE.is("but it is something", 1, x.lose(1));
        faults("now it is nothing", x, NULL, x.put(1, 0, 1));
    }

    private static void wraps(int lane, int[][] due) {
        EmberDrill x = new EmberDrill();
        x.sheet(0, lane, due.length);
        for (int i = 0; i < due.length; i++) {
            DUE.is("put " + due[i][0], 1, x.put(0, i, due[i][0]));
            DUE.is("cell of " + due[i][0], due[i][1], x.cell(0, i, lane));
        }
    }

    /** "0 bytes", "what comes to a cell of it is cut to its LANE" */
    private static void bytesWrap() {
        wraps(0, new int[][] {{127, 127}, {128, -128}, {255, -1}, {256, 0}, {-128, -128}, {-129, 127}, {-256, 0},
            {300, 44}, {70001, 113}, {MOST, -1}, {LEAST, 0}, {LEAST + 128, -128}});
    }

    /** "1 shorts" */
    private static void shortsWrap() {
        wraps(1, new int[][] {{32767, 32767}, {32768, -32768}, {65535, -1}, {65536, 0}, {-32768, -32768},
            {-32769, 32767}, {128, 128}, {70001, 4465}, {MOST, -1}, {LEAST, 0}});
    }

    /** "2 ints" */
    private static void intsAreWhole() {
        wraps(2, new int[][] {{MOST, MOST}, {LEAST, LEAST}, {128, 128}, {32768, 32768}, {70001, 70001}, {-1, -1}});
    }

    /** "UNKNOWN; NULL; INDEX" of put, and INDEX of cell */
    private static void firstAndLastCell() {
        EmberDrill x = new EmberDrill();
        x.sheet(2, 1, 3);
        DUE.is("the first", 1, x.put(2, 0, 1));
        DUE.is("the last", 1, x.put(2, 2, 3));
        for (int i : new int[] {-1, 3, 60, LEAST, MOST}) {
            faults("put " + i, x, INDEX, x.put(2, i, 9));
            lost("cell " + i, x, INDEX, 2, i, 1);
        }
        rowIs("the others are as they were", x, 2, 1, 1, 0, 3);
    }

    /** "taken as a row of a LANE", "2 CAST (it is of another LANE, kind)" */
    private static void cellOfAnotherLane() {
        for (int lane = 0; lane < 3; lane++) {
            EmberDrill x = new EmberDrill();
            x.sheet(0, lane, 1);
            x.put(0, 0, 7);
            for (int as = 0; as < 3; as++) {
                DUE.is("cell", as == lane ? 7 : LOST, x.cell(0, 0, as));
                DUE.is("fault", as == lane ? 0 : CAST, x.fault());
                lost("cast ahead of index", x, as == lane ? INDEX : CAST, 0, 1, as);
            }
            for (int as : new int[] {-1, 3, LEAST, MOST}) lost("lane " + as, x, 0, 0, 1, as);
        }
    }

    /** "CAST (nothing is no CAST), NULL" */
    private static void cellOfNothing() {
        EmberDrill x = new EmberDrill();
        for (int lane = 0; lane < 3; lane++) {
            lost("nothing", x, NULL, 0, 0, lane);
            lost("null ahead of index", x, NULL, 0, -1, lane);
        }
        lost("lane 3 of nothing", x, 0, 0, 0, 3);
    }

    /** "n cells .. go to another one (perhaps the same) .., as they were" */
    private static void copyOnwardsAndBackwards() {
        for (int lane = 0; lane < 3; lane++) {
            EmberDrill x = new EmberDrill();
            Due.row(x, 0, lane, 1, 2, 3, 4, 5, 6);
            DUE.is("by one onwards", 5, x.copy(0, 0, 0, 1, 5));
            rowIs("onwards", x, 0, lane, 1, 1, 2, 3, 4, 5);
            DUE.is("by one backwards", 5, x.copy(0, 1, 0, 0, 5));
            rowIs("backwards", x, 0, lane, 1, 2, 3, 4, 5, 5);
            DUE.is("by two onwards", 4, x.copy(0, 0, 0, 2, 4));
            rowIs("by two", x, 0, lane, 1, 2, 1, 2, 3, 4);
            DUE.is("to where they are", 6, x.copy(0, 0, 0, 0, 6));
            rowIs("the same", x, 0, lane, 1, 2, 1, 2, 3, 4);
            DUE.is("fault", INDEX, x.fault());
        }
    }

    private static void copyOfAll() {
        EmberDrill x = new EmberDrill();
        x.sheet(0, 2, 60);
        x.sheet(1, 2, 60);
        for (int i = 0; i < 60; i++) x.put(0, i, i + 1);
        DUE.is("all", 60, x.copy(0, 0, 1, 0, 60));
        DUE.is("fault", 0, x.fault());
        for (int i = 0; i < 60; i++) DUE.is("cell", i + 1, x.cell(1, i, 2));
        DUE.is("the last to the first", 1, x.copy(0, 59, 1, 0, 1));
        DUE.is("cell", 60, x.cell(1, 0, 2));
        faults("61", x, INDEX, x.copy(0, 0, 1, 0, 61));
    }

    private static void copyOfNone() {
        EmberDrill x = new EmberDrill();
        Due.row(x, 0, 0, 1, 2);
        Due.row(x, 1, 0, 3, 4, 5);
        for (int i = 0; i <= 2; i++) {
            for (int j = 0; j <= 3; j++) DUE.is("none", 0, x.copy(0, i, 1, j, 0));
        }
        DUE.is("fault", 0, x.fault());
        for (int wrong : new int[] {-1, LEAST, MOST}) {
            faults("none from " + wrong + " on", x, INDEX, x.copy(0, wrong, 1, 0, 0));
            faults("none to " + wrong + " on", x, INDEX, x.copy(0, 0, 1, wrong, 0));
        }
        faults("none from 3 on", x, INDEX, x.copy(0, 3, 1, 0, 0));
        faults("none to 4 on", x, INDEX, x.copy(0, 0, 1, 4, 0));
        rowIs("as it was", x, 1, 0, 3, 4, 5);
    }

    /** "INDEX: i, j, n below 0 or beyond" */
    private static void copyBeyond() {
        EmberDrill x = new EmberDrill();
        Due.row(x, 0, 0, 1, 2);
        Due.row(x, 1, 0, 3, 4, 5);
        int[][] beyond = {{0, 0, 3}, {1, 0, 2}, {2, 0, 1}, {0, 2, 2}, {0, 3, 1}, {-1, 0, 1}, {0, -1, 1}, {0, 0, -1},
            {0, 0, LEAST}, {0, 0, MOST}, {1, 1, MOST}, {MOST, 0, 1}, {0, MOST, 1}, {MOST, MOST, MOST}, {LEAST, 0, MOST},
            {-1, -1, 0}, {2, 3, -1}};
        for (int[] b : beyond) faults("copy " + b[0] + " " + b[1] + " " + b[2], x, INDEX, x.copy(0, b[0], 1, b[1], b[2]));
        rowIs("from", x, 0, 0, 1, 2);
        rowIs("to", x, 1, 0, 3, 4, 5);
        DUE.is("just all of the lesser", 2, x.copy(0, 0, 1, 1, 2));
        rowIs("to", x, 1, 0, 3, 1, 2);
    }

    /** "CAST (unlike LANES)" */
    private static void copyOfUnlikeLanes() {
        EmberDrill x = new EmberDrill();
        for (int k = 0; k < 3; k++) x.sheet(k, k, 1);
        for (int k = 0; k < 3; k++) {
            for (int other = 0; other < 3; other++) {
                if (k == other) DUE.is("alike", 1, x.copy(k, 0, other, 0, 1));
                else faults("unlike", x, CAST, x.copy(k, 0, other, 0, 1));
                if (k != other) faults("unlike ahead of index", x, CAST, x.copy(k, 9, other, -9, -9));
                if (k != other) faults("unlike, none", x, CAST, x.copy(k, 0, other, 0, 0));
            }
        }
    }

    /** "FAULTS NULL (the first, the other)" */
    private static void copyOfNothing() {
        EmberDrill x = new EmberDrill();
        x.sheet(0, 0, 1);
        faults("from nothing", x, NULL, x.copy(1, 0, 0, 0, 0));
        faults("to nothing", x, NULL, x.copy(0, 0, 1, 0, 0));
        faults("from nothing to itself", x, NULL, x.copy(1, 0, 1, 0, 0));
        faults("null ahead of index", x, NULL, x.copy(0, -1, 1, -1, -1));
        DUE.is("to sheet 4", UNKNOWN, x.copy(1, 0, 4, 0, 0));
        DUE.is("fault", 0, x.fault());
    }

    private static void copyIsNotCut() {
        EmberDrill x = new EmberDrill();
        Due.row(x, 0, 2, LEAST, MOST);
        x.sheet(1, 2, 2);
        x.copy(0, 0, 1, 0, 2);
        rowIs("ints", x, 1, 2, LEAST, MOST);
    }

    /** "WOOD (1): HARD. SOFT (2): what WOOD's gives, and 100. PITCHY (3): .., and what WOOD's gives" */
    private static void bodiesOfEachKind() {
        for (int hard : new int[] {0, 9}) {
            int[] told = {hard, hard + 100, hard + 100 + hard};
            int[] traces = {1, 2 * 31 + 1, ((3 * 31 + 2) * 31 + 1) * 31 + 1};
            for (int kind = 0; kind < 3; kind++) {
                EmberDrill x = new EmberDrill();
                x.wood(kind, hard, 0, 20);
                DUE.is("say", told[kind], x.say(0));
                DUE.is("trace", traces[kind], x.trace());
            }
        }
    }

    /** "STACKED by a lent body (4): its number; PITCHY ones have their own (5): 60" */
    private static void numbersOfTheStacked() {
        EmberDrill x = new EmberDrill();
        for (int w = 0; w < 6; w++) x.wood(w % 3, 0, 0, 20);
        int[] due = {0, 1, 60, 3, 4, 60};
        int trace = 0;
        for (int w = 0; w < 6; w++) {
            DUE.is("stack " + w, due[w], x.stack(w));
            trace = 31 * trace + (w % 3 == 2 ? 5 : 4);
            DUE.is("trace", trace, x.trace());
        }
    }

    /** "TRACE (an int that wraps, 0 at first, becomes 31 times it and the number)" */
    private static void traceWraps() {
        EmberDrill x = new EmberDrill();
        x.wood(0, 0, 0, 20);
        DUE.is("at first", 0, x.trace());
        int[] due = {1, 32, 993, 30784, 954305, 29583456, 917087137, -1635069824, 852443009, 655929504};
        for (int s = 0; s < due.length; s++) {
            x.say(0);
            DUE.is("trace of " + (s + 1), due[s], x.trace());
        }
    }

    private static void aRefusedTellingLeavesNoTrace() {
        EmberDrill x = Due.dryWoods();
        x.say(2);
        int trace = x.trace();
        for (int w : new int[] {-1, 3, LEAST, MOST}) {
            DUE.is("say " + w, UNKNOWN, x.say(w));
            DUE.is("stack " + w, UNKNOWN, x.stack(w));
        }
        x.as(2, 1);
        x.as(0, 1);
        DUE.is("trace", trace, x.trace());
    }

    /** "A WOOD, taken as one of a kind: 1. UNKNOWN; OUTSIDE; CAST: it is none." */
    private static void eachKindAsEach() {
        EmberDrill x = Due.dryWoods();
        int[][] due = {{1, -12, -12}, {1, 1, -12}, {1, 1, 1}};
        for (int w = 0; w < 3; w++) {
            for (int kind = 0; kind < 3; kind++) {
                DUE.is("as", due[w][kind], x.as(w, kind));
                DUE.is("fault", due[w][kind] == 1 ? 0 : CAST, x.fault());
            }
            for (int kind : new int[] {-1, 3, LEAST, MOST}) {
                DUE.is("kind " + kind, OUTSIDE, x.as(w, kind));
                DUE.is("fault", 0, x.fault());
            }
        }
        for (int w : new int[] {-1, 3, LEAST, MOST}) DUE.is("wood " + w, UNKNOWN, x.as(w, 3));
    }

    /** "(0 ahead of any)" */
    private static void faultAtFirst() {
        EmberDrill x = new EmberDrill();
        DUE.is("fault", 0, x.fault());
        x.wood(0, 0, 0, 20);
        x.lose(0);
        DUE.is("fault", 0, x.fault());
    }

    /** "it answers -10 less it", "fault() tells it" */
    private static void eachFaultIsTold() {
        EmberDrill x = new EmberDrill();
        faults("null", x, NULL, x.put(0, 0, 0));
        x.sheet(0, 0, 1);
        faults("cast", x, CAST, x.drill(0, 1, 0, 0));
        faults("index", x, INDEX, x.put(0, 1, 0));
        faults("size", x, SIZE, x.sheet(0, 0, -1));
        DUE.is("it is told again", SIZE, x.fault());
    }

    /** "The FAULT of the latest call that names one": the others leave it. */
    private static void callsThatNameNone() {
        EmberDrill x = Due.dryWoods();
        Due.drill(x, "b;p6910");
        x.sheet(0, 0, -1);
        x.wood(0, 0, 0, 20);
        x.wood(9, 0, 0, 20);
        x.ofWood(0, 0);
        x.powder(0, 1);
        x.take(0, 0);
        x.take(9, 0);
        x.tell(2, 0);
        x.tell(9, 0);
        x.told(0);
        x.ofItem(0, 0);
        x.ofItem(9, 0);
        x.ofDrill(0);
        x.at(0, 0);
        x.at(99, 0);
        x.ember();
        x.comes();
        x.grid(0);
        x.grid(9);
        x.finish(0);
        x.go(0);
        x.go(9);
        x.reading(0, 0, 0);
        x.reading(99, 0, 0);
        x.back(1);
        x.back(9);
        x.fits(0);
        x.nest(9, 9, 9);
        x.nest(10, 9, 9);
        x.blow(9, 9);
        x.carried(9);
        x.lose(0);
        x.lose(3);
        x.lose(9);
        x.say(0);
        x.say(9);
        x.stack(0);
        x.stack(9);
        x.trace();
        x.many(0);
        x.many(9);
        DUE.is("size, still", SIZE, x.fault());
    }

    /** "0: it came to none, or was refused" */
    private static void callsThatNameOne() {
        EmberDrill x = Due.dryWoods();
        Due.write(x, 0, 0, "b;p6910");
        x.take(0, 0);
        Due.row(x, 1, 0, 1, 1, 1, 1, 1);
        Runnable[] calls = {() -> x.drill(0, 0, 0, 7), () -> x.drill(0, 0, 0, 3), () -> x.drill(9, 0, 0, 0),
            () -> x.drill(0, 9, 0, 0), () -> x.more(0, 1, 0, 0, 0), () -> x.more(0, 9, 0, 0, 0), () -> x.more(99, 1, 0, 0, 0),
            () -> x.lessons(1, 1, 0, 0, 1, 0), () -> x.lessons(1, 9, 0, 0, 1, 0), () -> x.lessons(1, 1, 0, 0, 1, 9),
            () -> x.sheet(3, 0, 1), () -> x.sheet(9, 0, 1), () -> x.sheet(3, 0, 61), () -> x.put(3, 0, 1),
            () -> x.put(9, 0, 1), () -> x.cell(3, 0, 0), () -> x.cell(9, 0, 0), () -> x.cell(3, 0, 9),
            () -> x.copy(3, 0, 3, 0, 1), () -> x.copy(9, 0, 3, 0, 1), () -> x.copy(3, 0, 9, 0, 1), () -> x.as(0, 0),
            () -> x.as(9, 0), () -> x.as(0, 9)};
        for (int c = 0; c < calls.length; c++) {
            faults("ahead of " + c, x, SIZE, x.sheet(2, 0, -1));
            calls[c].run();
            DUE.is("behind " + c, 0, x.fault());
        }
    }

    /** "How many: 0 WOODS, 1 ITEMS, 2 READINGS. OUTSIDE." */
    private static void howMany() {
        EmberDrill x = new EmberDrill();
        for (int what = 0; what < 3; what++) DUE.is("none", 0, x.many(what));
        for (int what : new int[] {-1, 3, LEAST, MOST}) DUE.is("what " + what, OUTSIDE, x.many(what));
        for (int w = 0; w < 7; w++) x.wood(0, 0, 0, 20);
        Due.drill(x, "h;s;s;s;s;s;s;s;r01");
        for (int r = 0; r < 9; r++) x.reading(1, 0, 0);
        DUE.is("woods", 6, x.many(0));
        DUE.is("items", 8, x.many(1));
        DUE.is("readings", 8, x.many(2));
    }
}

/** Promises 25 to 35. */
public final class SheetsTest {
    private static final Due DUE = new Due("SheetsTest");

    public static void main(String[] args) {
        sheet();
        lose();
        putAndCell();
        copy();
        telling();
        stacked();
        as();
        fault();
        many();
        DUE.end();
    }

    private static void sheet() {
        EmberDrill x = new EmberDrill();
        DUE.is("sheet 4", EmberDrill.UNKNOWN, x.sheet(4, 3, -1));
        DUE.is("sheet -1", EmberDrill.UNKNOWN, x.sheet(-1, 0, 1));
        DUE.is("lane 3", EmberDrill.OUTSIDE, x.sheet(0, 3, -1));
        DUE.is("lane -1", EmberDrill.OUTSIDE, x.sheet(0, -1, 1));
        DUE.is("61", EmberDrill.OUTSIDE, x.sheet(0, 0, 61));
        DUE.is("fault", 0, x.fault());
        DUE.is("-1", -14, x.sheet(0, 0, -1));
        DUE.is("fault", 4, x.fault());
        DUE.is("nothing came", 0, x.lose(0));
        DUE.is("0 cells", 1, x.sheet(0, 0, 0));
        DUE.is("fault", 0, x.fault());
        DUE.is("no cell", EmberDrill.LOST, x.cell(0, 0, 0));
        DUE.is("index", 3, x.fault());
        DUE.is("60 cells", 1, x.sheet(3, 2, 60));
        DUE.is("the last", 1, x.put(3, 59, 8));
        DUE.is("refused", EmberDrill.OUTSIDE, x.sheet(3, 2, 61));
        DUE.is("it stays", 8, x.cell(3, 59, 2));
        DUE.is("a new row", 1, x.sheet(3, 2, 60));
        DUE.is("is 0", 0, x.cell(3, 59, 2));
    }

    private static void lose() {
        EmberDrill x = new EmberDrill();
        DUE.is("sheet 4", EmberDrill.UNKNOWN, x.lose(4));
        DUE.is("sheet -1", EmberDrill.UNKNOWN, x.lose(-1));
        x.sheet(2, 1, 0);
        DUE.is("a row of none is something", 1, x.lose(2));
        DUE.is("nothing", 0, x.lose(2));
        DUE.is("put to nothing", -11, x.put(2, 0, 0));
    }

    private static void putAndCell() {
        EmberDrill x = new EmberDrill();
        int[] given = {127, 128, -129, 40000, -40000, Integer.MAX_VALUE, Integer.MIN_VALUE};
        for (int lane = 0; lane < 3; lane++) {
            x.sheet(lane, lane, given.length);
            for (int i = 0; i < given.length; i++) {
                long due = lane == 0 ? (byte) given[i] : lane == 1 ? (short) given[i] : given[i];
                DUE.is("put", 1, x.put(lane, i, given[i]));
                DUE.is("cell", due, x.cell(lane, i, lane));
            }
            DUE.is("put -1", -13, x.put(lane, -1, 0));
            DUE.is("put beyond", -13, x.put(lane, given.length, 0));
            DUE.is("fault", 3, x.fault());
            DUE.is("cell -1", EmberDrill.LOST, x.cell(lane, -1, lane));
            DUE.is("fault", 3, x.fault());
            DUE.is("cell beyond", EmberDrill.LOST, x.cell(lane, given.length, lane));
            DUE.is("fault", 3, x.fault());
            DUE.is("cell of another lane", EmberDrill.LOST, x.cell(lane, -1, (lane + 1) % 3));
            DUE.is("fault", 2, x.fault());
            DUE.is("cell of lane 3", EmberDrill.LOST, x.cell(lane, 0, 3));
            DUE.is("fault", 0, x.fault());
        }
        DUE.is("put to sheet 4", EmberDrill.UNKNOWN, x.put(4, -1, 0));
        DUE.is("put to sheet 3", -11, x.put(3, -1, 0));
        DUE.is("fault", 1, x.fault());
        DUE.is("cell of sheet 4", EmberDrill.LOST, x.cell(4, 0, 0));
        DUE.is("fault", 0, x.fault());
        DUE.is("cell of nothing", EmberDrill.LOST, x.cell(3, -1, 0));
        DUE.is("fault", 1, x.fault());
        DUE.is("cell", 127, x.cell(2, 0, 2));
        DUE.is("fault", 0, x.fault());
    }

    private static void rowIs(EmberDrill x, int sheet, int lane, int... due) {
        for (int i = 0; i < due.length; i++) DUE.is("cell " + i, due[i], x.cell(sheet, i, lane));
    }

    private static void copy() {
        EmberDrill x = new EmberDrill();
        Due.row(x, 0, 0, 1, 2, 3, 4, 5);
        DUE.is("onwards", 4, x.copy(0, 0, 0, 1, 4));
        rowIs(x, 0, 0, 1, 1, 2, 3, 4);
        DUE.is("backwards", 3, x.copy(0, 2, 0, 0, 3));
        rowIs(x, 0, 0, 2, 3, 4, 3, 4);
        Due.row(x, 1, 0, 9, 9, 9);
        DUE.is("to another", 2, x.copy(0, 3, 1, 1, 2));
        rowIs(x, 1, 0, 9, 3, 4);
        rowIs(x, 0, 0, 2, 3, 4, 3, 4);
        DUE.is("none at the ends", 0, x.copy(0, 5, 1, 3, 0));
        int[][] wrong = {{-1, 0, 1}, {0, -1, 1}, {0, 0, -1}, {6, 0, 0}, {0, 4, 0}, {3, 0, 3}, {0, 1, 3},
            {1, 1, Integer.MAX_VALUE}, {Integer.MAX_VALUE, 0, 1}, {Integer.MIN_VALUE, 0, Integer.MIN_VALUE}};
        for (int[] w : wrong) {
            DUE.is("index", -13, x.copy(0, w[0], 1, w[1], w[2]));
            DUE.is("fault", 3, x.fault());
        }
        rowIs(x, 1, 0, 9, 3, 4);
        DUE.is("sheet 4", EmberDrill.UNKNOWN, x.copy(4, 0, 2, 0, 0));
        DUE.is("to sheet 4", EmberDrill.UNKNOWN, x.copy(2, 0, 4, 0, 0));
        DUE.is("fault", 0, x.fault());
        DUE.is("nothing", -11, x.copy(2, -1, 0, 0, 0));
        DUE.is("to nothing", -11, x.copy(0, -1, 2, 0, 0));
        DUE.is("fault", 1, x.fault());
        x.sheet(2, 1, 3);
        DUE.is("another lane", -12, x.copy(0, -1, 2, 0, 0));
        DUE.is("fault", 2, x.fault());
    }

    private static void telling() {
        EmberDrill x = new EmberDrill();
        x.wood(0, 3, 0, 20);
        x.wood(1, 4, 0, 20);
        x.wood(2, 5, 0, 20);
        DUE.is("wood", 3, x.say(0));
        DUE.is("1", 1, x.trace());
        DUE.is("soft", 104, x.say(1));
        DUE.is("1 2 1", (1 * 31 + 2) * 31 + 1, x.trace());
        DUE.is("wood 3", EmberDrill.UNKNOWN, x.say(3));
        DUE.is("wood -1", EmberDrill.UNKNOWN, x.say(-1));
        int trace = x.trace();
        DUE.is("pitchy", 110, x.say(2));
        for (int body : new int[] {3, 2, 1, 1}) trace = trace * 31 + body;
        DUE.is("3 2 1 1", trace, x.trace());
    }

    private static void stacked() {
        EmberDrill x = Due.dryWoods();
        x.wood(1, 0, 0, 20);
        DUE.is("wood", 0, x.stack(0));
        DUE.is("4", 4, x.trace());
        DUE.is("soft", 3, x.stack(3));
        DUE.is("4 4", 4 * 31 + 4, x.trace());
        DUE.is("pitchy", 60, x.stack(2));
        DUE.is("4 4 5", (4 * 31 + 4) * 31 + 5, x.trace());
        DUE.is("wood 4", EmberDrill.UNKNOWN, x.stack(4));
        DUE.is("wood -1", EmberDrill.UNKNOWN, x.stack(-1));
        DUE.is("it stays", (4 * 31 + 4) * 31 + 5, x.trace());
    }

    private static void as() {
        EmberDrill x = Due.dryWoods();
        for (int w = 0; w < 3; w++) {
            for (int kind = 0; kind < 3; kind++) {
                DUE.is("as " + w + " " + kind, kind <= w ? 1 : -12, x.as(w, kind));
                DUE.is("fault", kind <= w ? 0 : 2, x.fault());
            }
        }
        DUE.is("wood 3", EmberDrill.UNKNOWN, x.as(3, 3));
        DUE.is("kind 3", EmberDrill.OUTSIDE, x.as(0, 3));
        DUE.is("kind -1", EmberDrill.OUTSIDE, x.as(0, -1));
        DUE.is("fault", 0, x.fault());
    }

    /** Calls that name no FAULTS leave the latest one; those that do and are refused end it. */
    private static void fault() {
        EmberDrill x = Due.dryWoods();
        x.put(0, 0, 0);
        DUE.is("null", 1, x.fault());
        x.wood(0, 0, 0, 20);
        x.ofWood(9, 0);
        x.lose(9);
        x.lose(0);
        x.say(9);
        x.stack(0);
        x.ember();
        x.many(0);
        x.back(0);
        x.trace();
        DUE.is("still", 1, x.fault());
        x.put(9, 0, 0);
        DUE.is("refused put", 0, x.fault());
        x.put(0, 0, 0);
        x.copy(9, 0, 0, 0, 0);
        DUE.is("refused copy", 0, x.fault());
        x.put(0, 0, 0);
        x.as(9, 0);
        DUE.is("refused as", 0, x.fault());
        x.put(0, 0, 0);
        x.sheet(9, 0, 0);
        DUE.is("refused sheet", 0, x.fault());
        x.put(0, 0, 0);
        x.drill(9, 0, 0, 0);
        DUE.is("refused drill", 0, x.fault());
        x.put(0, 0, 0);
        x.lessons(1, 9, 0, 0, 0, 0);
        DUE.is("refused lessons", 0, x.fault());
        x.put(0, 0, 0);
        x.more(0, 9, 0, 0, 0);
        DUE.is("refused more", 0, x.fault());
        x.put(0, 0, 0);
        x.cell(9, 0, 0);
        DUE.is("refused cell", 0, x.fault());
    }

    private static void many() {
        EmberDrill x = Due.dryWoods();
        Due.drill(x, "h;s;r01");
        x.reading(0, 0, 0);
        DUE.is("woods", 3, x.many(0));
        DUE.is("items", 2, x.many(1));
        DUE.is("readings", 1, x.many(2));
        DUE.is("what 3", EmberDrill.OUTSIDE, x.many(3));
        DUE.is("what -1", EmberDrill.OUTSIDE, x.many(-1));
    }
}

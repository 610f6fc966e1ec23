/** TEXTS at their edges: block 2 of the document to "no READINGS then", promises 8 to 10. */
public final class TextEdgesTest {
    private static final Due DUE = new Due("TextEdgesTest");
    private static final int UNKNOWN = EmberDrill.UNKNOWN, OUTSIDE = EmberDrill.OUTSIDE, STATE = EmberDrill.STATE;
    private static final String DIGITS = "0123456789";
    private static final String EIGHT = "b;p1101;p9960;r01;r60;s;s;p2345;r30";

    public static void main(String[] args) {
        noCodes();
        endsTooSoon();
        everyCodeBehindABeginning();
        secondsThatAreNotAsTold();
        oneToEightItems();
        aNinthItem();
        leastAndMostOfAnItem();
        itemsOfEight();
        itemsOfTheLatestText();
        secondsInAll();
        eachLane();
        codesThatAreCut();
        fromTheMidstOfARow();
        noneAreTaken();
        beyondTheRow();
        readingsGoWithATextThatIsTaken();
        theDrillStaysWhereTheSheetDoesNot();
        DUE.end();
    }

    private static int answer(String text) {
        return Due.drill(new EmberDrill(), text);
    }

    private static void fault(String text, int place) {
        EmberDrill x = new EmberDrill();
        DUE.is("drill " + text, -100 - place, Due.drill(x, text));
        DUE.is("fault() of " + text, 0, x.fault());
        DUE.is("items of " + text, 0, x.many(1));
        DUE.is("no drill by " + text, STATE, x.ofDrill(0));
    }

    /** "how many codes there are, if it just ends too soon": there are none. */
    private static void noCodes() {
        fault("", 0);
    }

    /** The same, of each beginning of a TEXT that is none itself. */
    private static void endsTooSoon() {
        String whole = "h;p9960;s;r01";
        int[] items = {0, 0, 0, 0, 0, 0, 0, 1, 0, 2, 0, 0, 0, 3};
        for (int n = 0; n <= whole.length(); n++) {
            String text = whole.substring(0, n);
            if (items[n] > 0) DUE.is("drill " + text, items[n], answer(text));
            else fault(text, n);
        }
    }

    /** "the place of the first code with which no TEXT goes on": beginnings, and the codes with which one goes on. */
    private static void everyCodeBehindABeginning() {
        String[][] goesOn = {{"", "hb"}, {"h", ";"}, {"b", ";"}, {"h;", "psr"}, {"b;p", "123456789"},
            {"b;p1", "123456789"}, {"b;p9", "123456789"}, {"h;p11", "0123456"}, {"h;p99", "0123456"},
            {"h;p110", "123456789"}, {"h;p111", DIGITS}, {"h;p115", DIGITS}, {"h;p116", "0"}, {"h;r", "0123456"},
            {"h;r0", "123456789"}, {"h;r5", DIGITS}, {"h;r6", "0"}, {"h;p1101", ";"}, {"h;p1160", ";"}, {"b;s", ";"},
            {"b;r01", ";"}, {"b;r60", ";"}, {"b;s;", "psr"}, {"b;s;s;s;s;s;s;s", ";"}, {"b;s;s;s;s;s;s;s;s", ""},
            {"b;s;s;s;s;s;s;s;r10", ""}, {"b;s;s;s;s;s;s;s;p1110", ""}};
        for (String[] g : goesOn) {
            for (int code = -130; code <= 300; code++) aCodeBehind(g[0], code, code > 0 && g[1].indexOf(code) >= 0);
        }
    }

    private static void aCodeBehind(String beginning, int code, boolean goesOn) {
        EmberDrill x = new EmberDrill();
        int place = beginning.length();
        x.sheet(0, 2, place + 1);
        for (int i = 0; i < place; i++) x.put(0, i, beginning.charAt(i));
        x.put(0, place, code);
        boolean isWhole = beginning.endsWith(";") && code == 's' || beginning.matches(".*(r|p[1-9][1-9])[0-6]");
        boolean isSecondDigit = beginning.matches(".*;(r|p[1-9][1-9])[0-6]") && code >= '0' && code <= '9';
        int due = -100 - place;
        if (goesOn) due = isWhole ? beginning.split(";").length - (code == 's' ? 0 : 1) : -100 - place - 1;
        else if (isSecondDigit) due = -100 - place + 1;
        DUE.is("drill " + beginning + " and " + code, due, x.drill(0, 2, 0, place + 1));
    }

    /** "of SECONDS that are not as told their first digit" */
    private static void secondsThatAreNotAsTold() {
        for (int s = 0; s <= 99; s++) {
            String two = "" + s / 10 + s % 10;
            if (s >= 1 && s <= 60) {
                DUE.is("p " + two, 1, answer("h;p11" + two));
                DUE.is("r " + two, 1, answer("h;r" + two));
            } else {
                fault("h;p11" + two, 5);
                fault("h;r" + two, 3);
                fault("h;r" + two + ";s", 3);
                fault("h;s;s;p99" + two + "x", 9);
            }
        }
    }

    /** "then 1 to 8 ITEMS" */
    private static void oneToEightItems() {
        fault("h", 1);
        fault("b", 1);
        StringBuilder text = new StringBuilder("b");
        for (int items = 1; items <= 8; items++) {
            text.append(items % 3 == 0 ? ";s" : items % 3 == 1 ? ";p1101" : ";r60");
            EmberDrill x = new EmberDrill();
            DUE.is("drill " + text, items, Due.drill(x, text.toString()));
            DUE.is("many", items, x.many(1));
        }
    }

    /** "the ; of a ninth ITEM" */
    private static void aNinthItem() {
        fault(EIGHT + ";", EIGHT.length());
        fault(EIGHT + ";s", EIGHT.length());
        fault(EIGHT + ";p1110", EIGHT.length());
        fault(EIGHT + ";;;", EIGHT.length());
        String longest = "h;p9960;p9960;p9960;p9960;p9960;p9960;p9960;p9960";
        DUE.is("49 codes", 8, answer(longest));
        fault(longest + ";r60;s;s;s", 49);
    }

    /** "p, a digit 1 .. 9 (press), a digit 1 .. 9 (quick), two digits 01 .. 60 (SECONDS)" */
    private static void leastAndMostOfAnItem() {
        EmberDrill x = new EmberDrill();
        DUE.is("drill", 4, Due.drill(x, "h;p1901;p9160;r01;r60"));
        int[][] due = {{0, 1, 9, 1}, {0, 9, 1, 60}, {2, 0, 0, 1}, {2, 0, 0, 60}};
        for (int i = 0; i < 4; i++) for (int what = 0; what < 4; what++) DUE.is("item", due[i][what], x.ofItem(i, what));
        fault("h;p0101", 3);
        fault("h;p1001", 4);
        fault("h;p1100", 5);
        fault("h;p1161", 5);
        fault("h;r00", 3);
        fault("h;r61", 3);
    }

    /** "numbered from 0 on", "0 of others", "0 of sand" */
    private static void itemsOfEight() {
        EmberDrill x = new EmberDrill();
        Due.drill(x, EIGHT);
        int[][] due = {{0, 1, 1, 1}, {0, 9, 9, 60}, {2, 0, 0, 1}, {2, 0, 0, 60}, {1, 0, 0, 0}, {1, 0, 0, 0},
            {0, 2, 3, 45}, {2, 0, 0, 30}};
        for (int i = 0; i < 8; i++) {
            for (int what = 0; what < 4; what++) DUE.is("item " + i + " " + what, due[i][what], x.ofItem(i, what));
            DUE.is("what 4", OUTSIDE, x.ofItem(i, 4));
            DUE.is("what -1", OUTSIDE, x.ofItem(i, -1));
        }
        DUE.is("item 8", UNKNOWN, x.ofItem(8, 0));
        DUE.is("item 8, what 4", UNKNOWN, x.ofItem(8, 4));
        DUE.is("item -1, what -1", UNKNOWN, x.ofItem(-1, -1));
    }

    private static void itemsOfTheLatestText() {
        EmberDrill x = new EmberDrill();
        Due.drill(x, EIGHT);
        DUE.is("a shorter one", 1, Due.drill(x, "h;s"));
        DUE.is("many", 1, x.many(1));
        DUE.is("sand", 1, x.ofItem(0, 0));
        for (int i = 1; i < 8; i++) DUE.is("gone", UNKNOWN, x.ofItem(i, 0));
        DUE.is("untaken", -100 - EIGHT.length(), Due.drill(x, EIGHT + ";s"));
        DUE.is("still one", 1, x.many(1));
        DUE.is("still sand", 1, x.ofItem(0, 0));
        DUE.is("still hands", 0, x.ofDrill(0));
        DUE.is("still no seconds", 0, x.ofDrill(1));
    }

    /** "1 SECONDS in all" */
    private static void secondsInAll() {
        EmberDrill x = new EmberDrill();
        DUE.is("no drill", STATE, x.ofDrill(1));
        Due.drill(x, "h;s;s;s;s;s;s;s;s");
        DUE.is("sand takes none", 0, x.ofDrill(1));
        Due.drill(x, "h;r01");
        DUE.is("one", 1, x.ofDrill(1));
        Due.drill(x, "b;p9960;r60;p9960;r60;p9960;r60;p9960;r60");
        DUE.is("480", 480, x.ofDrill(1));
        DUE.is("bow", 1, x.ofDrill(0));
        DUE.is("what 2", OUTSIDE, x.ofDrill(2));
        DUE.is("what -1", OUTSIDE, x.ofDrill(-1));
    }

    /** "taken as a row of a LANE", "CAST (nothing is no CAST); NULL" */
    private static void eachLane() {
        for (int lane = 0; lane < 3; lane++) {
            EmberDrill x = new EmberDrill();
            for (int as = 0; as < 3; as++) {
                DUE.is("nothing is no cast", -11, x.drill(lane, as, 0, 0));
                DUE.is("null", 1, x.fault());
            }
            Due.write(x, lane, lane, "b;p6905;s");
            for (int as = 0; as < 3; as++) {
                DUE.is("as a row of lane " + as, as == lane ? 2 : -12, x.drill(lane, as, 0, 9));
                DUE.is("fault", as == lane ? 0 : 2, x.fault());
            }
        }
    }

    /** "what comes to a cell of it is cut to its LANE", and so are codes. */
    private static void codesThatAreCut() {
        int[] wraps = {256, 65536, 65536};
        for (int lane = 0; lane < 3; lane++) {
            EmberDrill x = new EmberDrill();
            x.sheet(0, lane, 3);
            String text = "h;s";
            for (int i = 0; i < 3; i++) x.put(0, i, text.charAt(i) + wraps[lane]);
            DUE.is("by a lap more, lane " + lane, lane == 2 ? -100 : 1, x.drill(0, lane, 0, 3));
            for (int i = 0; i < 3; i++) x.put(0, i, text.charAt(i) - wraps[lane]);
            DUE.is("by a lap less, lane " + lane, lane == 2 ? -100 : 1, x.drill(0, lane, 0, 3));
            for (int i = 0; i < 3; i++) x.put(0, i, text.charAt(i) + 256);
            DUE.is("by 256 more, lane " + lane, lane == 0 ? 1 : -100, x.drill(0, lane, 0, 3));
        }
    }

    /** "n cells of a SHEET from i on" */
    private static void fromTheMidstOfARow() {
        EmberDrill x = new EmberDrill();
        x.sheet(1, 1, 60);
        String text = "h;r59";
        for (int i = 0; i < 5; i++) {
            x.put(1, i, text.charAt(i));
            x.put(1, 30 + i, text.charAt(i));
            x.put(1, 55 + i, text.charAt(i));
        }
        x.put(1, 34, '8');
        DUE.is("at its end", 1, x.drill(1, 1, 55, 5));
        DUE.is("59", 59, x.ofItem(0, 3));
        DUE.is("in its midst", 1, x.drill(1, 1, 30, 5));
        DUE.is("58", 58, x.ofItem(0, 3));
        DUE.is("all of it", -105, x.drill(1, 1, 0, 60));
        DUE.is("one less: places count from i on", -104, x.drill(1, 1, 55, 4));
        DUE.is("one later", -100, x.drill(1, 1, 56, 4));
    }

    /** "3 INDEX (of cells from i on also where i is not 0 .. how many there are, if none of them is taken, too)" */
    private static void noneAreTaken() {
        for (int length : new int[] {0, 1, 60}) {
            EmberDrill x = new EmberDrill();
            x.sheet(0, 0, length);
            DUE.is("at the beginning", -100, x.drill(0, 0, 0, 0));
            DUE.is("at the end", -100, x.drill(0, 0, length, 0));
            DUE.is("no fault", 0, x.fault());
            for (int i : new int[] {-1, length + 1, Integer.MIN_VALUE, Integer.MAX_VALUE}) {
                DUE.is("from " + i + " on", -13, x.drill(0, 0, i, 0));
                DUE.is("index", 3, x.fault());
            }
        }
    }

    private static void beyondTheRow() {
        EmberDrill x = new EmberDrill();
        Due.write(x, 0, 0, "h;s");
        int[][] beyond = {{0, 4}, {1, 3}, {2, 2}, {3, 1}, {-1, 3}, {-1, 4}, {0, Integer.MAX_VALUE}, {3, Integer.MAX_VALUE},
            {Integer.MAX_VALUE, Integer.MAX_VALUE}, {Integer.MIN_VALUE, Integer.MAX_VALUE}, {Integer.MAX_VALUE, 1}};
        for (int[] b : beyond) {
            DUE.is("from " + b[0] + " on " + b[1], -13, x.drill(0, 0, b[0], b[1]));
            DUE.is("index", 3, x.fault());
        }
        for (int n : new int[] {-1, Integer.MIN_VALUE}) {
            for (int i : new int[] {0, 3, -1, 4, Integer.MAX_VALUE}) {
                DUE.is("n " + n + " from " + i + " on", -14, x.drill(0, 0, i, n));
                DUE.is("size", 4, x.fault());
            }
        }
        DUE.is("just all", 1, x.drill(0, 0, 0, 3));
    }

    /** "A TEXT that is taken: no READINGS then." */
    private static void readingsGoWithATextThatIsTaken() {
        EmberDrill x = new EmberDrill();
        Due.drill(x, "h;r10");
        for (int r = 0; r < 8; r++) x.reading(r, 0, 0);
        DUE.is("a fault of the machine", -13, x.drill(3, 2, 0, 9));
        DUE.is("they stay", 8, x.many(2));
        DUE.is("refused", UNKNOWN, x.drill(4, 2, 0, 5));
        DUE.is("they stay", 8, x.many(2));
        DUE.is("untaken", -104, x.drill(3, 2, 0, 4));
        DUE.is("they stay", 8, x.many(2));
        DUE.is("the same text again", 1, x.drill(3, 2, 0, 5));
        DUE.is("they are gone", 0, x.many(2));
        DUE.is("none to take back", OUTSIDE, x.back(1));
        DUE.is("the next is the first", 0, x.reading(0, 0, 0));
    }

    private static void theDrillStaysWhereTheSheetDoesNot() {
        EmberDrill x = new EmberDrill();
        Due.drill(x, "b;p3742");
        x.put(3, 3, '9');
        x.sheet(3, 0, 0);
        x.lose(3);
        DUE.is("press", 3, x.ofItem(0, 1));
        DUE.is("seconds", 42, x.ofDrill(1));
    }
}

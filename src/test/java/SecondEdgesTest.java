/** SECONDS, AN EMBER and COMES at their edges: block 2 of the document from "At first" on, promises 11 to 13. */
public final class SecondEdgesTest {
    private static final Due DUE = new Due("SecondEdgesTest");
    private static final int OUTSIDE = EmberDrill.OUTSIDE, STATE = EmberDrill.STATE, NONE = EmberDrill.NONE;
    private static final int HEAT = 0, DUST = 1, WATER = 2, GLAZE = 3, STRENGTH = 4, SLIPPED = 5, TIRED = 6;
    private static final int ARMS = 0, GRIP = 1, COLD = 2, HEAP = 3;

    public static void main(String[] args) {
        atFirst();
        strengthJustEnough();
        tiredGoesAsRest();
        restGivesThree();
        fifthSecondsByHands();
        fifthOfAllSeconds();
        fifthSecondWithoutWork();
        pressAboveGrip();
        glazeOfFive();
        pressAboveTwiceQuick();
        steamOfWorkByTwo();
        steamOfWorkOfOne();
        steamBehindGlaze();
        coldIsCut();
        heatOfBefore();
        dustFromHeat100On();
        dustByHeatThen();
        sandIsNoSecond();
        sandAheadOfTheNext();
        dustOfHeap();
        heatOfPoint();
        pointOfBoth();
        bothAtOnce();
        theFirstSecondOfSeveral();
        theLastOf480();
        comesInOrder();
        comesAtItsEdges();
        secondsThatAreNot();
        statesInOrder();
        DUE.end();
    }

    /** Two dry WOODS alike, HARD 4 (POWDER 3 by a press of 5, 6), GLOW 20; no COLD. */
    private static EmberDrill dry(String text) {
        EmberDrill x = Due.dryWoods();
        x.take(0, 0);
        x.tell(COLD, 0);
        DUE.holds("a text: " + text, Due.drill(x, text) > 0);
        return x;
    }

    private static EmberDrill wet(int wet, String text) {
        EmberDrill x = new EmberDrill();
        x.wood(0, 4, wet, 20);
        x.wood(0, 4, 0, 20);
        x.take(0, 1);
        x.tell(COLD, 0);
        DUE.holds("a text: " + text, Due.drill(x, text) > 0);
        return x;
    }

    private static void shows(String call, EmberDrill x, int what, int... due) {
        for (int s = 0; s < due.length; s++) DUE.is(call + " behind " + s, due[s], x.at(s, what));
    }

    /** "At first HEAT, DUST, GLAZE are 0, WATER is WET of both together, STRENGTH is ARMS." */
    private static void atFirst() {
        EmberDrill x = new EmberDrill();
        x.wood(0, 0, 0, 20);
        x.wood(2, 9, 30, 60);
        Due.drill(x, "h;p9960");
        int[][] due = {{0, 0, 0, 0}, {1, 1, 60, 999}, {0, 1, 30, 0}, {1, 0, 30, 999}};
        for (int[] d : due) {
            x.take(d[0], d[1]);
            x.tell(ARMS, d[3]);
            int[] seen = {0, 0, d[2], 0, d[3], 0, 0};
            for (int what = 0; what < 7; what++) DUE.is("at first " + what, seen[what], x.at(0, what));
        }
    }

    /** "is STRENGTH below both together, it TIRES" */
    private static void strengthJustEnough() {
        EmberDrill x = dry("h;p9901");
        x.tell(ARMS, 18);
        DUE.is("18 are enough", 81, x.at(1, HEAT));
        DUE.is("none is left", 0, x.at(1, STRENGTH));
        DUE.is("it does not tire", 0, x.at(1, TIRED));
        x.tell(ARMS, 17);
        DUE.is("17 are not", 0, x.at(1, HEAT));
        DUE.is("it tires", 1, x.at(1, TIRED));
        x.tell(ARMS, 0);
        DUE.is("none at all", 1, x.at(1, TIRED));
        x = dry("h;p1101");
        x.tell(ARMS, 2);
        DUE.is("2 for 1 and 1", 1, x.at(1, HEAT));
        x.tell(ARMS, 1);
        DUE.is("1 for 1 and 1", 0, x.at(1, HEAT));
    }

    /** "it goes as one of rest": HEAT cools, STRENGTH comes, nothing else. */
    private static void tiredGoesAsRest() {
        EmberDrill x = dry("b;p6904;p9903;p6101");
        x.tell(ARMS, 61);
        x.tell(COLD, 10);
        shows("heat", x, HEAT, 0, 54, 103, 147, 187, 169, 153, 138);
        shows("strength", x, STRENGTH, 61, 46, 31, 16, 1, 4, 7, 10);
        shows("tired", x, TIRED, 0, 0, 0, 0, 0, 1, 2, 3);
        DUE.is("no dust by it", x.at(4, DUST), x.at(7, DUST));
        DUE.is("it does not slip", 0, x.at(7, SLIPPED));
        DUE.is("it does not glaze", 0, x.at(7, GLAZE));
        DUE.is("strong again", 3, x.at(8, TIRED));
    }

    /** "STRENGTH 3 more (ARMS at most)" */
    private static void restGivesThree() {
        EmberDrill x = dry("b;p1101;r01;p1201;r01;p2201;r01;r01");
        x.tell(ARMS, 20);
        shows("strength", x, STRENGTH, 20, 18, 20, 17, 20, 16, 19, 20);
        x.tell(ARMS, 999);
        shows("strength", x, STRENGTH, 999, 997, 999, 996, 999, 995, 998, 999);
    }

    /** "0, if it is by HANDS and it is the fifth, tenth, .. SECOND of all" */
    private static void fifthSecondsByHands() {
        shows("hands", dry("h;p1116"), HEAT, 0, 1, 2, 3, 4, 4, 5, 6, 7, 8, 8, 9, 10, 11, 12, 12, 13);
        shows("bow", dry("b;p1116"), HEAT, 0, 1, 2, 3, 4, 5, 6, 7, 8, 9, 10, 11, 12, 13, 14, 15, 16);
    }

    /** Rest counts, one that tires counts, sand does not. */
    private static void fifthOfAllSeconds() {
        shows("rest", dry("h;r04;p1103"), HEAT, 0, 0, 0, 0, 0, 0, 1, 2);
        shows("sand", dry("h;p1102;s;p1102;s;s;p1102"), HEAT, 0, 1, 2, 3, 4, 4, 5);
        EmberDrill x = dry("h;p1108");
        x.tell(ARMS, 2);
        shows("tired heat", x, HEAT, 0, 1, 1, 2, 2, 2, 2, 3, 3);
        shows("tired strength", x, STRENGTH, 2, 0, 2, 0, 2, 0, 2, 0, 2);
    }

    /** WORK is 0 then, but all else is as in any SECOND. */
    private static void fifthSecondWithoutWork() {
        EmberDrill x = dry("h;p9305");
        x.tell(COLD, 10);
        shows("heat", x, HEAT, 0, 27, 52, 74, 94, 85);
        DUE.is("strength goes", 240, x.at(5, STRENGTH));
        DUE.is("glaze comes", 5, x.at(5, GLAZE));
        DUE.is("it does not slip", 0, x.at(5, SLIPPED));
        x = dry("h;p5505");
        DUE.is("heat stays", 100, x.at(5, HEAT));
        DUE.is("dust comes", 12, x.at(5, DUST));
        x = wet(30, "h;p5505");
        DUE.is("water ahead of it", 0, x.at(4, WATER));
        x = wet(30, "h;r04;p5502");
        DUE.is("no steam in it", 30, x.at(5, WATER));
        DUE.is("steam behind it", 18, x.at(6, WATER));
    }

    /** "or by a BOW and press is above GRIP (it SLIPS)" */
    private static void pressAboveGrip() {
        for (int grip = 1; grip <= 9; grip++) {
            EmberDrill x = dry("b;p" + grip + "101;p" + Math.min(9, grip + 1) + "101");
            x.tell(GRIP, grip);
            DUE.is("press as grip: heat", grip, x.at(1, HEAT));
            DUE.is("press as grip: no slip", 0, x.at(1, SLIPPED));
            DUE.is("one above: heat", grip < 9 ? grip : 18, x.at(2, HEAT));
            DUE.is("one above: slips", grip < 9 ? 1 : 0, x.at(2, SLIPPED));
        }
        EmberDrill x = dry("h;p9903");
        x.tell(GRIP, 1);
        DUE.is("hands have no grip", 243, x.at(3, HEAT));
        DUE.is("they do not slip", 0, x.at(3, SLIPPED));
    }

    /** "GLAZE of 5 or more: WORK by 2" */
    private static void glazeOfFive() {
        EmberDrill x = dry("b;p3107;s;p3102");
        shows("glaze", x, GLAZE, 0, 1, 2, 3, 4, 5, 6, 0, 1, 2);
        shows("heat", x, HEAT, 0, 3, 6, 9, 12, 15, 16, 17, 20, 23);
        x = dry("b;p3104;p5501;p3101;p5501");
        shows("glaze", x, GLAZE, 0, 1, 2, 3, 4, 4, 5, 5);
        shows("of 4 whole, of 5 half", x, HEAT, 0, 3, 6, 9, 12, 37, 40, 52);
        x = dry("b;p3105;p1102");
        DUE.is("1 by 2 is none", 15, x.at(7, HEAT));
    }

    /** "if press is above twice quick, GLAZE is 1 more" */
    private static void pressAboveTwiceQuick() {
        for (int press = 1; press <= 9; press++) {
            for (int quick = 1; quick <= 9; quick++) {
                EmberDrill x = dry("h;p" + press + quick + "01");
                int due = 0;
                if (quick == 1 && press >= 3 || quick == 2 && press >= 5) due = 1;
                if (quick == 3 && press >= 7 || quick == 4 && press == 9) due = 1;
                DUE.is("glaze by " + press + quick, due, x.at(1, GLAZE));
            }
        }
        EmberDrill x = dry("b;p9103");
        DUE.is("a string that slips glazes, too", 3, x.at(3, GLAZE));
    }

    /** "WATER less s, the lesser of WATER and WORK by 2; WORK less 2 s" */
    private static void steamOfWorkByTwo() {
        int[][] due = {{0, 10, 0}, {1, 8, 0}, {4, 2, 0}, {5, 0, 0}, {6, 0, 1}, {30, 0, 25}};
        for (int[] d : due) {
            EmberDrill x = wet(d[0], "b;p2501");
            DUE.is("heat, wet " + d[0], d[1], x.at(1, HEAT));
            DUE.is("water, wet " + d[0], d[2], x.at(1, WATER));
        }
        int[][] odd = {{0, 9, 0}, {3, 3, 0}, {4, 1, 0}, {5, 1, 1}};
        for (int[] d : odd) {
            EmberDrill x = wet(d[0], "b;p1901");
            DUE.is("heat of 9, wet " + d[0], d[1], x.at(1, HEAT));
            DUE.is("water of 9, wet " + d[0], d[2], x.at(1, WATER));
        }
    }

    /** Half of 1 is none: it goes to HEAT while there is WATER. WORK of 0 leaves it, too. */
    private static void steamOfWorkOfOne() {
        EmberDrill x = wet(1, "b;p1103;p1201;p1101;p7101;r01");
        shows("water", x, WATER, 1, 1, 1, 1, 0, 0, 0, 0);
        shows("heat", x, HEAT, 0, 1, 2, 3, 3, 4, 4, 4);
        x = wet(3, "b;p7902;r02");
        shows("water stays", x, WATER, 3, 3, 3, 3, 3);
    }

    private static void steamBehindGlaze() {
        EmberDrill x = wet(10, "b;p3107");
        shows("water", x, WATER, 10, 9, 8, 7, 6, 5, 5, 5);
        shows("heat", x, HEAT, 0, 1, 2, 3, 4, 5, 6, 7);
    }

    /** "HEAT is less by HEAT times COLD by 100", "Quotients are cut", COLD 0 .. 20 */
    private static void coldIsCut() {
        EmberDrill x = dry("b;p1501;r04");
        x.tell(COLD, 20);
        shows("5 by 5 is 1, 4 by 5 is none", x, HEAT, 0, 5, 4, 4, 4, 4);
        x.tell(COLD, 19);
        shows("95 by 100 is none", x, HEAT, 0, 5, 5, 5, 5, 5);
        x.tell(COLD, 0);
        shows("no cold", x, HEAT, 0, 5, 5, 5, 5, 5);
        x = dry("b;p5504;r02");
        x.tell(COLD, 1);
        shows("1 of 100", x, HEAT, 0, 25, 50, 75, 100, 99, 99);
    }

    /** "less by HEAT (of before)" */
    private static void heatOfBefore() {
        EmberDrill x = dry("b;p1502");
        x.tell(COLD, 20);
        DUE.is("5 and 5, less 1", 9, x.at(2, HEAT));
        x = dry("h;p9904");
        x.tell(COLD, 20);
        shows("heat", x, HEAT, 0, 81, 146, 198, 240);
    }

    /** "is it 100 then or more, DUST is more by POWDER of both" */
    private static void dustFromHeat100On() {
        EmberDrill x = dry("b;p5504");
        DUE.is("75", 0, x.at(3, DUST));
        DUE.is("just 100", 100, x.at(4, HEAT));
        DUE.is("twice 5 times 6 by 10", 6, x.at(4, DUST));
        x = dry("b;p3312");
        DUE.is("just 99", 99, x.at(11, HEAT));
        DUE.is("no dust", 0, x.at(11, DUST));
        DUE.is("108: twice 3 times 6 by 10", 2, x.at(12, DUST));
        x = dry("b;p5504");
        x.take(0, 1);
        DUE.is("3 and twice 3", 9, x.at(4, DUST));
        x.take(2, 1);
        DUE.is("twice 3 and twice 3", 12, x.at(4, DUST));
    }

    /** What HEAT is behind the SECOND's WORK and COLD counts, not what it was. */
    private static void dustByHeatThen() {
        EmberDrill x = dry("b;p5504;p9901;p9901;r01");
        DUE.is("it slips, heat is 100 still", 16, x.at(5, DUST));
        DUE.is("once more", 26, x.at(6, DUST));
        DUE.is("none by rest", 26, x.at(7, DUST));
        x.tell(COLD, 1);
        DUE.is("100", 100, x.at(4, HEAT));
        DUE.is("99 then", 99, x.at(5, HEAT));
        DUE.is("none is more", 6, x.at(5, DUST));
    }

    /** "Sand: GLAZE is 0." */
    private static void sandIsNoSecond() {
        EmberDrill x = dry("b;s;s;p3103;s;s;s");
        DUE.is("three seconds", 3, x.ofDrill(1));
        DUE.is("strength", 288, x.at(3, STRENGTH));
        DUE.is("heat", 9, x.at(3, HEAT));
        DUE.is("second 4", OUTSIDE, x.at(4, 0));
    }

    /** "Behind so many SECONDS (and sand ahead of the next one)" */
    private static void sandAheadOfTheNext() {
        EmberDrill x = dry("b;p3102;s;r01;p3101;s;s;p3101;s");
        shows("glaze", x, GLAZE, 0, 1, 0, 0, 0, 0);
        x = dry("b;p3102;r01;s;p3102;p3101");
        shows("glaze", x, GLAZE, 0, 1, 2, 0, 1, 2, 3);
        x = dry("b;s");
        for (int what = 0; what < 7; what++) DUE.is("only sand", what == STRENGTH ? 300 : 0, x.at(0, what));
        DUE.is("second 1 of none", OUTSIDE, x.at(1, 0));
    }

    /** "DUST is HEAP or more" */
    private static void dustOfHeap() {
        EmberDrill x = dry("b;p5805");
        DUE.is("heat", 200, x.at(5, HEAT));
        DUE.is("dust", 18, x.at(5, DUST));
        int[][] due = {{1, 5}, {17, 5}, {18, 5}, {19, NONE}, {99, NONE}};
        for (int[] d : due) {
            x.tell(HEAP, d[0]);
            DUE.is("heap " + d[0], d[1], x.ember());
        }
        x = dry("b;p5860");
        x.tell(HEAP, 96);
        DUE.is("dust of 16 seconds from the third on", 18, x.ember());
        x.tell(HEAP, 97);
        DUE.is("of 17", 19, x.ember());
        x.tell(HEAP, 99);
        DUE.is("of 17", 19, x.ember());
    }

    /** "HEAT no less than POINT" */
    private static void heatOfPoint() {
        EmberDrill x = dry("b;p5507;p4601;p1101");
        x.tell(HEAP, 1);
        DUE.is("199", 199, x.at(8, HEAT));
        DUE.is("200 in the ninth", 9, x.ember());
        x = dry("b;p5507;p4601");
        x.tell(HEAP, 1);
        DUE.is("199 are less", NONE, x.ember());
        x = dry("b;p5509;p4601;p1101");
        x.tell(HEAP, 1);
        x.take(2, 2);
        DUE.is("249", 249, x.at(10, HEAT));
        DUE.is("pitchy: 250 in the eleventh", 11, x.ember());
    }

    private static void pointOfBoth() {
        EmberDrill x = new EmberDrill();
        x.wood(0, 4, 0, 20);
        x.wood(0, 4, 0, 21);
        x.wood(2, 4, 0, 20);
        x.tell(COLD, 0);
        x.tell(HEAP, 1);
        int[][] due = {{0, 0, 20}, {0, 1, 21}, {1, 0, 21}, {1, 1, 21}, {0, 2, 25}, {2, 0, 25}, {1, 2, 25}, {2, 2, 25}};
        // Ten a second is half as much from the sixth on, but for the sand.
        Due.drill(x, "b;p5205;s;p5205;s;p5205;s;p5205");
        for (int[] d : due) {
            x.take(d[0], d[1]);
            DUE.is("glow of " + d[0] + " and " + d[1], d[2] == 20 ? 20 : NONE, x.ember());
        }
        Due.drill(x, "b;p2540");
        for (int[] d : due) {
            x.take(d[0], d[1]);
            DUE.is("glow of " + d[0] + " and " + d[1], d[2], x.ember());
        }
    }

    /** HEAT is enough while DUST is not yet, DUST is enough when HEAT is no more: there is none. */
    private static void bothAtOnce() {
        EmberDrill x = new EmberDrill();
        x.wood(0, 9, 0, 20);
        x.wood(0, 8, 0, 20);
        x.take(0, 1);
        x.tell(COLD, 20);
        Due.drill(x, "h;p9904;r02;p9102");
        shows("heat", x, HEAT, 0, 81, 146, 198, 240, 192, 154, 133, 116);
        shows("dust", x, DUST, 0, 0, 1, 2, 3, 3, 3, 4, 5);
        x.tell(HEAP, 3);
        DUE.is("both", 4, x.ember());
        x.tell(HEAP, 4);
        DUE.is("never both", NONE, x.ember());
        DUE.is("smoke", 5, x.comes());
    }

    /** "AN EMBER comes in the first SECOND (1 for the first one) behind which .." */
    private static void theFirstSecondOfSeveral() {
        EmberDrill x = dry("b;p5805;r60;r60;p5805");
        x.tell(HEAP, 18);
        DUE.is("the first", 5, x.ember());
        x.tell(COLD, 20);
        DUE.is("none by the first five", NONE, x.ember());
        x = dry("h;p9903;r60");
        x.tell(HEAP, 1);
        x.tell(COLD, 20);
        DUE.is("198 in the third", NONE, x.ember());
        x.tell(COLD, 5);
        DUE.is("81, 158, 232", 3, x.ember());
        DUE.is("heat is gone at the end", 19, x.at(63, HEAT));
        DUE.is("it came", 0, x.comes());
    }

    private static void theLastOf480() {
        EmberDrill x = new EmberDrill();
        x.wood(1, 0, 0, 24);
        x.wood(1, 0, 0, 25);
        x.take(0, 0);
        x.tell(COLD, 0);
        x.tell(HEAP, 1);
        DUE.is("480 seconds", 8, Due.drill(x, "b;r60;r60;r60;r60;r60;r60;r60;p1460"));
        DUE.is("236", 236, x.at(479, HEAT));
        DUE.is("240", 240, x.at(480, HEAT));
        DUE.is("the last", 480, x.ember());
        DUE.is("beyond", OUTSIDE, x.at(481, HEAT));
        x.take(0, 1);
        DUE.is("it would be later", NONE, x.ember());
    }

    /** "COMES behind all ITEMS: the first of these that is so" */
    private static void comesInOrder() {
        // Half of 1 is none, so HEAT goes to 200 while WATER stays.
        EmberDrill x = new EmberDrill();
        x.wood(1, 0, 1, 20);
        x.wood(1, 0, 0, 20);
        x.take(0, 1);
        x.tell(ARMS, 999);
        x.tell(COLD, 0);
        Due.drill(x, "b;p1160;p1160;p1160;p1120;p9105");
        DUE.is("water", 1, x.at(200, WATER));
        DUE.is("an ember", 200, x.ember());
        DUE.is("glazed, slipped, steam: an ember ahead of all", 0, x.comes());
        Due.drill(x, "b;p1160;p1160;p1160;p1119;p9105;p9960");
        DUE.is("water", 1, x.at(264, WATER));
        DUE.is("glazed", 5, x.at(264, GLAZE));
        DUE.holds("tired", x.at(264, TIRED) > 0);
        DUE.holds("dust", x.at(264, DUST) > 0);
        DUE.is("steam ahead of all else", 1, x.comes());
        x.take(1, 1);
        x.tell(HEAP, 99);
        Due.drill(x, "b;p6902;p9105;p6101");
        DUE.is("glazed ahead of slipped and smoke", 2, x.comes());
        x.tell(ARMS, 40);
        Due.drill(x, "b;p6902;p9101;p6901");
        DUE.is("tired", 1, x.at(4, TIRED));
        DUE.is("slipped ahead of tired and smoke", 3, x.comes());
        x.tell(ARMS, 30);
        Due.drill(x, "b;p6903");
        x.tell(COLD, 1);
        DUE.holds("dust", x.at(3, DUST) > 0);
        DUE.is("tired ahead of smoke", 4, x.comes());
        x.tell(ARMS, 300);
        DUE.is("smoke ahead of nothing", 5, x.comes());
        Due.drill(x, "b;p6901");
        DUE.is("nothing", 6, x.comes());
    }

    /** "there is WATER", "GLAZE is 5 or more", "it ever did", "there is DUST" */
    private static void comesAtItsEdges() {
        DUE.is("1 of water", 1, wet(6, "b;p2501").comes());
        DUE.is("no water", 6, wet(5, "b;p2501").comes());
        DUE.is("glaze of 4", 6, dry("b;p3104").comes());
        DUE.is("glaze of 5", 2, dry("b;p3105").comes());
        DUE.is("glaze of 5, then sand", 6, dry("b;p3105;s").comes());
        DUE.is("glaze of 5, sand, then 4", 6, dry("b;p3105;s;p3104").comes());
        DUE.is("slipped in the first of many", 3, dry("b;p7701;r60;r60").comes());
        DUE.is("as hard as grip", 6, dry("b;p6601").comes());
        EmberDrill x = dry("b;p1102;r60");
        x.tell(ARMS, 3);
        DUE.is("tired once", 4, x.comes());
        x.tell(ARMS, 4);
        DUE.is("never tired", 6, x.comes());
        x = new EmberDrill();
        x.wood(0, 9, 0, 60);
        x.wood(0, 8, 0, 60);
        x.take(0, 1);
        x.tell(COLD, 0);
        Due.drill(x, "b;p5504");
        DUE.is("1 of dust", 1, x.at(4, DUST));
        DUE.is("smoke", 5, x.comes());
        Due.drill(x, "b;p5503");
        DUE.is("none", 6, x.comes());
        Due.drill(x, "b;p4520");
        DUE.is("heat", 400, x.at(20, HEAT));
        DUE.is("without dust", 0, x.at(20, DUST));
        DUE.is("nothing", 6, x.comes());
    }

    /** "OUTSIDE: second (0 .. SECONDS in all; without a DRILL 0), what" */
    private static void secondsThatAreNot() {
        EmberDrill x = dry("h;p1102;r03");
        for (int s : new int[] {-1, 6, Integer.MIN_VALUE, Integer.MAX_VALUE}) DUE.is("second " + s, OUTSIDE, x.at(s, 0));
        for (int what : new int[] {-1, 7, Integer.MIN_VALUE, Integer.MAX_VALUE}) DUE.is("what " + what, OUTSIDE, x.at(0, what));
        DUE.is("the last of both", 0, x.at(5, 6));
        x = new EmberDrill();
        for (int s : new int[] {-1, 1, Integer.MIN_VALUE, Integer.MAX_VALUE}) DUE.is("no drill, " + s, OUTSIDE, x.at(s, 0));
        DUE.is("no drill, what 7", OUTSIDE, x.at(0, 7));
        DUE.is("no drill, what -1", OUTSIDE, x.at(0, -1));
        DUE.is("no drill", STATE, x.at(0, 0));
    }

    /** "STATE: there is no DRILL, no SPINDLE" */
    private static void statesInOrder() {
        EmberDrill x = Due.dryWoods();
        Due.drill(x, "h;r05");
        DUE.is("second 6, no spindle", OUTSIDE, x.at(6, 0));
        DUE.is("second 5, no spindle", STATE, x.at(5, 0));
        DUE.is("ember, no spindle", STATE, x.ember());
        DUE.is("comes, no spindle", STATE, x.comes());
        DUE.is("a spindle that is none", EmberDrill.UNKNOWN, x.take(3, 0));
        DUE.is("ember, still no spindle", STATE, x.ember());
        x.take(2, 2);
        DUE.is("ember", NONE, x.ember());
        DUE.is("comes", 6, x.comes());
    }
}

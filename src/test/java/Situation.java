import java.util.ArrayList;
import java.util.List;

/**
 * What a call is made in, and what it is given. As it is, nothing is refused in it; a test spoils a part of it.
 * SHEET 0 has bytes, SHEET 1 shorts, SHEET 2 nothing, SHEET 3 ints: a TEXT.
 */
final class Situation {
    static final int[] BYTES = {1, 2, 3, 2, 1, 0, 0, 0, 0, 0, 1, 1, 1, 1, 1, 1, 1, 10, 4, 1, 1, 1, -1};
    static final int ALL_0 = 5, A_10 = 13, A_4_AND_A_MINUS_1 = 18;
    static final int[] SHORTS = {300, 200, 100};
    static final String TEXT = "b;p5809;s;r02";
    static final int SECONDS = 11, ITEMS = 3, WOODS = 3;
    /** The latest FAULT ahead of the call: SIZE, so that it can be seen whether it stays. */
    static final int FAULT_BEFORE = 4;

    boolean drilled = true;
    boolean taken = true;
    boolean embers = true;
    boolean pressed = true;
    boolean sixWoods = false;
    boolean eightReadings = false;
    final int[] given;

    Situation(int... given) {
        this.given = given.clone();
    }

    EmberDrill make() {
        EmberDrill x = Due.dryWoods();
        for (int w = WOODS; sixWoods && w < 6; w++) x.wood(0, w, w, 20 + w);
        x.tell(2, 0);
        x.tell(3, 1);
        if (taken) x.take(0, 1);
        Due.row(x, 0, 0, BYTES);
        Due.row(x, 1, 1, SHORTS);
        String text = !pressed ? "b;r09;s;r02" : embers ? TEXT : "b;p1109;s;r02";
        Due.write(x, 3, 2, text);
        if (drilled) x.drill(3, 2, 0, text.length());
        // No WATER in dry WOODS: a READING that took the place of one of these would be seen.
        for (int r = 0; drilled && r < (eightReadings ? 8 : 1); r++) x.reading(r, 2, 0);
        x.say(2);
        x.sheet(3, 2, -1);
        return x;
    }

    /** All that can be seen, but for fault(). It uses the object up: READINGS are seen as they are taken back. */
    static List<Long> look(EmberDrill x) {
        List<Long> seen = new ArrayList<>();
        for (int what = 0; what < 3; what++) seen.add((long) x.many(what));
        for (int what = 0; what < 6; what++) seen.add((long) x.told(what));
        for (int w = 0; w < 6; w++) for (int what = 0; what < 4; what++) seen.add((long) x.ofWood(w, what));
        for (int i = 0; i < 8; i++) for (int what = 0; what < 4; what++) seen.add((long) x.ofItem(i, what));
        for (int what = 0; what < 2; what++) seen.add((long) x.ofDrill(what));
        for (int what = 0; what < 7; what++) seen.add((long) x.at(x.ofDrill(1), what));
        seen.add((long) x.ember());
        seen.add((long) x.trace());
        for (int k = 0; k < 4; k++) lookAtSheet(x, k, seen);
        int readings = x.many(2);
        for (int r = 0; r <= readings; r++) {
            seen.add((long) x.fits(0));
            seen.add((long) x.fits(1));
            seen.add((long) x.back(r < readings ? 1 : 0));
        }
        return seen;
    }

    private static void lookAtSheet(EmberDrill x, int k, List<Long> seen) {
        for (int lane = 0; lane < 3; lane++) {
            for (int i = 0; i <= 60; i++) {
                long cell = x.cell(k, i, lane);
                seen.add(cell);
                if (cell != EmberDrill.LOST) continue;
                seen.add((long) x.fault());
                break;
            }
        }
    }
}

import java.util.ArrayList;
import java.util.List;
import java.util.Random;

/** What was asked and told before does not count: an object with a past answers as a new one in the same state. */
public final class AgainTest {
    private static final Due DUE = new Due("AgainTest");

    public static void main(String[] args) {
        secondsBehindAnotherText();
        lessonsOfFewerThings();
        Random chance = new Random(11);
        for (int run = 0; run < 600; run++) aPast(chance, run);
        DUE.end();
    }

    private static void secondsBehindAnotherText() {
        EmberDrill x = new EmberDrill();
        for (int t = 1; t <= 5; t++) {
            DUE.is("drill", 2, Due.drill(x, "b;p110" + t + ";r10"));
            DUE.is("seconds", 10 + t, x.ofDrill(1));
        }
        for (int t = 1; t <= 3; t++) {
            DUE.is("untaken", -112, Due.drill(x, "b;p1160;r60;"));
            DUE.is("as before", 15, x.ofDrill(1));
        }
        DUE.is("drill", 1, Due.drill(x, "b;r07"));
        DUE.is("seconds", 7, x.ofDrill(1));
        DUE.is("items", 1, x.many(1));
    }

    private static void lessonsOfFewerThings() {
        EmberDrill x = new EmberDrill();
        Due.row(x, 0, 0, 31, 30, 29, 27);
        Due.row(x, 1, 0, 1, 2, 2, 3);
        DUE.is("five things", 19, x.lessons(5, 0, 0, 0, 4, -1));
        DUE.is("two things", 6, x.lessons(2, 1, 0, 0, 4, -1));
        DUE.is("five things", 19, x.lessons(5, 0, 0, 0, 4, -1));
        DUE.is("one thing", 1, x.lessons(1, 1, 0, 0, 1, -1));
    }

    private static int of(Random chance, int least, int most) {
        return least + chance.nextInt(most - least + 1);
    }

    private static String text(Random chance) {
        StringBuilder text = new StringBuilder(chance.nextBoolean() ? "h" : "b");
        int items = of(chance, 1, 3);
        for (int i = 0; i < items; i++) {
            int what = chance.nextInt(5);
            String seconds = "" + chance.nextInt(3) + of(chance, 1, 9);
            if (what == 0) text.append(";s");
            else if (what == 1) text.append(";r").append(seconds);
            else text.append(";p").append(of(chance, 1, 9)).append(of(chance, 1, 9)).append(seconds);
        }
        return text.toString();
    }

    private static void aPast(Random chance, int run) {
        EmberDrill old = new EmberDrill();
        EmberDrill fresh = new EmberDrill();
        for (int w = 0; w < 3; w++) {
            int[] wood = {of(chance, 0, 2), of(chance, 0, 9), of(chance, 0, 6), of(chance, 20, 30)};
            old.wood(wood[0], wood[1], wood[2], wood[3]);
            fresh.wood(wood[0], wood[1], wood[2], wood[3]);
        }
        for (int t = 0; t < 3; t++) {
            old.tell(of(chance, 0, 3), of(chance, 1, 9));
            old.take(of(chance, 0, 2), of(chance, 0, 2));
            Due.drill(old, text(chance) + (chance.nextInt(3) == 0 ? ";" : ""));
            old.reading(0, 2, of(chance, 0, 12));
            asked(chance, old);
        }
        int[] told = {of(chance, 0, 400), of(chance, 1, 9), of(chance, 0, 9), of(chance, 1, 60)};
        int spindle = of(chance, 0, 2);
        int board = of(chance, 0, 2);
        String text = text(chance);
        List<Long> answers = new ArrayList<>();
        List<Long> due = new ArrayList<>();
        long seed = chance.nextLong();
        become(old, told, spindle, board, text);
        answer(new Random(seed), old, answers);
        become(fresh, told, spindle, board, text);
        answer(new Random(seed), fresh, due);
        for (int a = 0; a < due.size(); a++) DUE.is("run " + run + " " + text + " answer " + a, due.get(a), answers.get(a));
    }

    /** Calls that change nothing to be seen, but work with what the object keeps for them. */
    private static void asked(Random chance, EmberDrill x) {
        x.grid(0);
        x.finish(0);
        x.go(of(chance, 0, 2));
        x.fits(0);
        x.blow(9, 9);
        Due.row(x, 0, 0, 31, of(chance, 0, 31), of(chance, 0, 31));
        x.lessons(5, 0, 0, 0, 3, 1);
        x.at(x.ofDrill(1), 0);
    }

    private static void become(EmberDrill x, int[] told, int spindle, int board, String text) {
        for (int what = 0; what < 4; what++) x.tell(what, told[what]);
        x.take(spindle, board);
        DUE.holds("a text: " + text, Due.drill(x, text) > 0);
    }

    private static void answer(Random chance, EmberDrill x, List<Long> answers) {
        int all = x.ofDrill(1);
        answers.add((long) all);
        answers.add((long) x.many(1));
        answers.add((long) x.many(2));
        for (int i = 0; i < 4; i++) for (int what = 0; what < 4; what++) answers.add((long) x.ofItem(i, what));
        for (int what = 0; what < 7; what++) answers.add((long) x.at(of(chance, 0, all), what));
        answers.add((long) x.ember());
        answers.add((long) x.comes());
        for (int what = 0; what < 3; what++) answers.add((long) x.grid(what));
        for (int what = 0; what < 2; what++) answers.add((long) x.finish(what));
        for (int w = 0; w < 3; w++) answers.add((long) x.go(w));
        answers.add((long) x.nest(9, 9, of(chance, 1, 9)));
        answers.add((long) x.blow(of(chance, 0, 9), of(chance, 0, 9)));
        answers.add((long) x.carried(of(chance, 2, 9)));
        answers.add((long) x.reading(0, 2, x.at(0, 2)));
        for (int what = 0; what < 2; what++) answers.add((long) x.fits(what));
        Due.row(x, 0, 0, of(chance, 0, 9), of(chance, 0, 9), of(chance, 0, 9), of(chance, 0, 9), of(chance, 1, 9));
        for (int which = 0; which < 2; which++) answers.add(x.more(of(chance, 0, 60), 0, 0, 0, which));
        int f = of(chance, 1, 4);
        Due.row(x, 0, 0, chance.nextInt(1 << f), chance.nextInt(1 << f), chance.nextInt(1 << f));
        for (int q = -1; q < f; q++) answers.add((long) x.lessons(f, 0, 0, 0, 3, q));
        answers.add((long) x.fault());
    }
}

import java.util.List;
import java.util.Random;

/** Many runs by chance (always the same ones), compared with Model. */
public final class ModelTest {
    private static final Due DUE = new Due("ModelTest");
    private static final int RUNS = 1500;

    public static void main(String[] args) {
        Random chance = new Random(20261118);
        for (int run = 0; run < RUNS; run++) aDrill(chance, run);
        for (int run = 0; run < 4000; run++) aText(chance);
        for (int run = 0; run < 300; run++) aClass(chance);
        DUE.end();
    }

    private static int of(Random chance, int least, int most) {
        return least + chance.nextInt(most - least + 1);
    }

    private static String seconds(Random chance, int most) {
        int s = of(chance, 1, most);
        return "" + s / 10 + s % 10;
    }

    private static String someText(Random chance, int most) {
        StringBuilder text = new StringBuilder(chance.nextBoolean() ? "h" : "b");
        int items = of(chance, 1, 8);
        for (int i = 0; i < items; i++) {
            int what = chance.nextInt(8);
            if (what == 0) text.append(";s");
            else if (what == 1) text.append(";r").append(seconds(chance, most));
            else text.append(";p").append(of(chance, 1, 9)).append(of(chance, 1, 9)).append(seconds(chance, most));
        }
        return text.toString();
    }

    private static void aDrill(Random chance, int run) {
        Model model = new Model();
        EmberDrill x = new EmberDrill();
        int woods = of(chance, 1, 6);
        for (int w = 0; w < woods; w++) {
            int[] wood = {of(chance, 0, 2), of(chance, 0, 9), of(chance, 0, run % 3 == 0 ? 30 : 4), of(chance, 20, run % 2 == 0 ? 60 : 30)};
            model.woods.add(wood);
            DUE.is("wood", w, x.wood(wood[0], wood[1], wood[2], wood[3]));
        }
        if (chance.nextInt(3) > 0) x.tell(0, model.arms = of(chance, 0, chance.nextBoolean() ? 999 : 99));
        if (chance.nextInt(3) > 0) x.tell(1, model.grip = of(chance, 1, 9));
        if (chance.nextInt(3) > 0) x.tell(2, model.cold = of(chance, 0, chance.nextBoolean() ? 20 : 6));
        if (chance.nextInt(3) > 0) x.tell(3, model.heap = of(chance, 1, 99));
        int spindle = chance.nextInt(woods);
        int board = chance.nextInt(woods);
        x.take(spindle, board);
        String text = someText(chance, run % 5 == 0 ? 60 : 15);
        DUE.is("drill " + text, text.split(";").length - 1, Due.drill(x, text));
        boolean bow = text.startsWith("b");
        List<int[]> steps = Model.steps(text);
        String name = "run " + run + " " + text + " ";
        states(chance, name, model, x, bow, steps, spindle, board);
        best(name, model, x, bow, steps, spindle, board);
        more(chance, name, model, x, bow, steps, spindle, board);
        fits(chance, name, model, x, bow, steps);
    }

    private static void states(Random chance, String name, Model model, EmberDrill x, boolean bow,
            List<int[]> steps, int spindle, int board) {
        int all = Model.secondsOf(steps);
        DUE.is(name + "seconds", all, x.ofDrill(1));
        for (int t = 0; t < 12; t++) {
            int second = t == 0 ? 0 : t == 1 ? all : of(chance, 0, all);
            int[] due = model.state(bow, Model.first(steps, second), spindle, board, model.arms);
            for (int what = 0; what < 7; what++) DUE.is(name + "at " + second + " " + what, due[what], x.at(second, what));
        }
        int[] due = model.state(bow, steps, spindle, board, model.arms);
        DUE.is(name + "ember", due[7], x.ember());
        DUE.is(name + "comes", model.comes(due), x.comes());
        for (int w = 0; w < model.woods.size(); w++) {
            int set = 0;
            for (int o = 0; o < model.woods.size(); o++) {
                if (model.state(bow, steps, w, o, model.arms)[7] != EmberDrill.NONE) set += 1 << o;
            }
            DUE.is(name + "go " + w, set, x.go(w));
        }
        int horn = of(chance, 2, 9);
        boolean none = due[7] == EmberDrill.NONE;
        DUE.is(name + "carried " + horn, none ? EmberDrill.STATE : Model.carried(due[8], horn), x.carried(horn));
        int dry = of(chance, 0, 9);
        int loose = of(chance, 0, 9);
        int b = of(chance, 1, 9);
        DUE.is(name + "nest", none ? EmberDrill.STATE : Model.flame(due[8], dry, loose, b), x.nest(dry, loose, b));
    }

    private static void best(String name, Model model, EmberDrill x, boolean bow, List<int[]> steps, int spindle, int board) {
        int[] grid = model.grid(bow, spindle, board);
        for (int what = 0; what < 3; what++) DUE.is(name + "grid " + what, grid[what], x.grid(what));
        int[] finish = model.finish(bow, steps, spindle, board);
        for (int what = 0; what < 2; what++) DUE.is(name + "finish " + what, finish[what], x.finish(what));
    }

    private static void more(Random chance, String name, Model model, EmberDrill x, boolean bow,
            List<int[]> steps, int spindle, int board) {
        int[] last = null;
        for (int[] step : steps) if (step != null && step[0] > 0) last = step;
        int[] weights = new int[5];
        for (int g = 0; g < 5; g++) weights[g] = of(chance, 0, 9);
        weights[chance.nextInt(5)] = of(chance, 1, 9);
        Due.row(x, 0, chance.nextInt(3), weights);
        int lane = x.cell(0, 0, 0) != EmberDrill.LOST ? 0 : x.cell(0, 0, 1) != EmberDrill.LOST ? 1 : 2;
        int n = of(chance, 0, 60);
        if (last == null) {
            DUE.is(name + "more without p", EmberDrill.LOST, x.more(n, 0, lane, 0, 0));
            return;
        }
        int upper = 0;
        int lower = 0;
        for (int g = 0; g < 5; g++) {
            int arms = model.arms + 20 * g - 40;
            arms = arms < 0 ? 0 : arms > 999 ? 999 : arms;
            List<int[]> longer = Model.grown(steps, last[0], last[1], Model.secondsOf(steps) + n);
            if (model.state(bow, longer, spindle, board, arms)[7] != EmberDrill.NONE) upper += weights[g];
            lower += weights[g];
        }
        long u = x.more(n, 0, lane, 0, 0);
        long l = x.more(n, 0, lane, 0, 1);
        DUE.is(name + "more: the share", upper * l, lower * u);
        DUE.holds(name + "more: lower above 0", l > 0);
        for (int d = 2; d <= 45; d++) DUE.holds(name + "more: least terms", u % d != 0 || l % d != 0);
    }

    private static void fits(Random chance, String name, Model model, EmberDrill x, boolean bow, List<int[]> steps) {
        int woods = model.woods.size();
        int a = chance.nextInt(woods);
        int b = chance.nextInt(woods);
        int readings = chance.nextInt(5);
        int[][] kept = new int[readings][];
        for (int r = 0; r < readings; r++) {
            int second = of(chance, 0, Model.secondsOf(steps));
            int what = chance.nextInt(3);
            int v = model.state(bow, Model.first(steps, second), a, b, model.arms)[what];
            if (chance.nextInt(12) == 0) v++;
            kept[r] = new int[] {second, what, v};
            DUE.is(name + "reading", r, x.reading(second, what, v));
        }
        int pairs = 0;
        int first = EmberDrill.NONE;
        for (int pair = 35; pair >= 0; pair--) {
            if (pair / 6 >= woods || pair % 6 >= woods) continue;
            boolean fit = true;
            for (int[] r : kept) {
                fit &= model.state(bow, Model.first(steps, r[0]), pair / 6, pair % 6, model.arms)[r[1]] == r[2];
            }
            if (!fit) continue;
            pairs++;
            first = pair;
        }
        DUE.is(name + "fits 0", pairs, x.fits(0));
        DUE.is(name + "fits 1", first, x.fits(1));
    }

    /** A TEXT with one code changed, cut, or put in. */
    private static void aText(Random chance) {
        String codes = "hb;psr0123456789x";
        StringBuilder text = new StringBuilder(someText(chance, 60));
        int changes = chance.nextInt(3);
        for (int c = 0; c < changes && text.length() > 0; c++) {
            int place = chance.nextInt(text.length());
            char code = codes.charAt(chance.nextInt(codes.length()));
            int how = chance.nextInt(4);
            if (how == 0) text.setCharAt(place, code);
            else if (how == 1) text.insert(place, code);
            else if (how == 2) text.deleteCharAt(place);
            else text.setLength(place);
        }
        String t = text.toString();
        int due = Model.isText(t) ? t.split(";").length - 1 : -100 - Model.firstFault(t);
        DUE.is("drill " + t, due, Due.drill(new EmberDrill(), t));
    }

    private static void aClass(Random chance) {
        int f = of(chance, 1, 5);
        int[] pupils = new int[of(chance, 1, 12)];
        for (int p = 0; p < pupils.length; p++) pupils[p] = chance.nextInt(1 << f);
        int[] due = Model.lessons(f, pupils);
        EmberDrill x = new EmberDrill();
        Due.row(x, 2, 1, pupils);
        for (int q = -1; q < f; q++) DUE.is("lessons " + q, due[q + 1], x.lessons(f, 2, 1, 0, pupils.length, q));
    }
}

import java.util.ArrayList;
import java.util.List;
import java.util.Set;

/** The whole face once more, call by call as the document has it, for WholeTest to compare with. */
final class Plain {
    private static final Set<String> NAMES_FAULTS = Set.of("drill", "more", "lessons", "sheet", "put", "cell", "copy", "as");
    private static final int UNKNOWN = -1, OUTSIDE = -2, STATE = -3, FULL = -4, NONE = -9;
    private static final int NULL = -11, CAST = -12, INDEX = -13, SIZE = -14;

    /** A call ends with it as soon as one of its refusals, its FAULTS is come to. */
    private static final class Refused extends RuntimeException {
        private static final long serialVersionUID = 1;
        final int answer;

        Refused(int answer) {
            super(null, null, false, false);
            this.answer = answer;
        }
    }

    private final Model model = new Model();
    private int spindle = NONE;
    private int board = NONE;
    /** Of the DRILL. */
    private String text = null;
    /** second, what, v of each. */
    private final List<int[]> readings = new ArrayList<>();
    /** byte[], short[], int[] or null, as a SHEET has it. */
    private final Object[] sheets = new Object[4];
    private int trace = 0;
    private int fault = 0;

    long call(String name, int[] a) {
        if (NAMES_FAULTS.contains(name)) fault = 0;
        try {
            return answer(name, a);
        } catch (Refused r) {
            if (r.answer <= NULL && r.answer >= SIZE) fault = -10 - r.answer;
            return name.equals("more") || name.equals("cell") ? Long.MIN_VALUE : r.answer;
        }
    }

    /** What lies on a SHEET: -1 nothing, or its LANE. */
    int laneOf(int k) {
        Object row = sheets[k];
        return row == null ? -1 : row instanceof byte[] ? 0 : row instanceof short[] ? 1 : 2;
    }

    int lengthOf(int k) {
        return sheets[k] == null ? 0 : java.lang.reflect.Array.getLength(sheets[k]);
    }

    int secondsInAll() {
        return text == null ? 0 : Model.secondsOf(steps());
    }

    int woods() {
        return model.woods.size();
    }

    int readings() {
        return readings.size();
    }

    private long answer(String name, int[] a) {
        switch (name) {
            case "wood": return wood(a);
            case "ofWood": return ofWood(a[0], a[1]);
            case "powder": return powder(a[0], a[1]);
            case "take": return take(a[0], a[1]);
            case "tell": return tell(a[0], a[1]);
            case "told": return told(a[0]);
            case "drill": return drill(a[0], a[1], a[2], a[3]);
            case "ofItem": return ofItem(a[0], a[1]);
            case "ofDrill": return ofDrill(a[0]);
            case "at": return at(a[0], a[1]);
            case "ember": return ember()[7];
            case "comes": return model.comes(ember());
            case "grid": return grid(a[0]);
            case "finish": return finish(a[0]);
            case "go": return go(a[0]);
            case "more": return more(a[0], a[1], a[2], a[3], a[4]);
            case "reading": return reading(a[0], a[1], a[2]);
            case "back": return back(a[0]);
            case "fits": return fits(a[0]);
            case "nest": return nest(a[0], a[1], a[2]);
            case "blow": return blow(a[0], a[1]);
            case "carried": return carried(a[0]);
            case "lessons": return lessons(a);
            case "sheet": return sheet(a[0], a[1], a[2]);
            case "lose": return lose(a[0]);
            case "put": return put(a[0], a[1], a[2]);
            case "cell": return cell(a[0], a[1], a[2]);
            case "copy": return copy(a[0], a[1], a[2], a[3], a[4]);
            case "say": return say(a[0]);
            case "stack": return stack(a[0]);
            case "as": return as(a[0], a[1]);
            case "trace": return trace;
            case "fault": return fault;
            case "many": return many(a[0]);
            default: throw new IllegalArgumentException(name);
        }
    }

    private static void need(boolean so, int refusal) {
        if (!so) throw new Refused(refusal);
    }

    private static void range(int v, int least, int most, int refusal) {
        need(v >= least && v <= most, refusal);
    }

    // ---- 1 woods

    private int wood(int[] a) {
        range(a[0], 0, 2, OUTSIDE);
        range(a[1], 0, 9, OUTSIDE);
        range(a[2], 0, 30, OUTSIDE);
        range(a[3], 20, 60, OUTSIDE);
        need(woods() < 6, FULL);
        model.woods.add(a.clone());
        return woods() - 1;
    }

    private int[] known(int w) {
        range(w, 0, woods() - 1, UNKNOWN);
        return model.woods.get(w);
    }

    private int ofWood(int w, int what) {
        int[] wood = known(w);
        range(what, 0, 4, OUTSIDE);
        return what == 4 ? model.point(wood) : wood[what];
    }

    private int powder(int w, int press) {
        int[] wood = known(w);
        range(press, 1, 9, OUTSIDE);
        return model.powder(wood, press);
    }

    private int take(int first, int second) {
        known(first);
        known(second);
        spindle = first;
        board = second;
        return 1;
    }

    private int tell(int what, int v) {
        range(what, 0, 3, OUTSIDE);
        int was = told(what);
        if (what == 0) {
            range(v, 0, 999, OUTSIDE);
            model.arms = v;
        } else if (what == 1) {
            range(v, 1, 9, OUTSIDE);
            model.grip = v;
        } else if (what == 2) {
            range(v, 0, 20, OUTSIDE);
            model.cold = v;
        } else {
            range(v, 1, 99, OUTSIDE);
            model.heap = v;
        }
        return was;
    }

    private int told(int what) {
        range(what, 0, 5, OUTSIDE);
        return new int[] {model.arms, model.grip, model.cold, model.heap, spindle, board}[what];
    }

    // ---- 2 the drill

    /** n cells from i on. */
    private int[] cells(int k, int lane, int i, int n) {
        range(k, 0, 3, UNKNOWN);
        range(lane, 0, 2, OUTSIDE);
        need(sheets[k] == null || laneOf(k) == lane, CAST);
        need(sheets[k] != null, NULL);
        need(n >= 0, SIZE);
        range(i, 0, lengthOf(k), INDEX);
        need((long) i + n <= lengthOf(k), INDEX);
        int[] cells = new int[n];
        for (int c = 0; c < n; c++) cells[c] = java.lang.reflect.Array.getInt(sheets[k], i + c);
        return cells;
    }

    private int drill(int k, int lane, int i, int n) {
        StringBuilder codes = new StringBuilder();
        for (int code : cells(k, lane, i, n)) codes.append(code > 0 && code < 128 ? (char) code : '?');
        if (!Model.isText(codes.toString())) return -100 - Model.firstFault(codes.toString());
        text = codes.toString();
        readings.clear();
        return many(1);
    }

    private int ofItem(int i, int what) {
        range(i, 0, many(1) - 1, UNKNOWN);
        range(what, 0, 3, OUTSIDE);
        String item = text.split(";")[i + 1];
        char letter = item.charAt(0);
        if (what == 0) return "psr".indexOf(letter);
        if (what == 3) return letter == 's' ? 0 : Integer.parseInt(item.substring(item.length() - 2));
        return letter == 'p' ? item.charAt(what) - '0' : 0;
    }

    private int ofDrill(int what) {
        range(what, 0, 1, OUTSIDE);
        need(text != null, STATE);
        return what == 1 ? secondsInAll() : bow() ? 1 : 0;
    }

    private boolean bow() {
        return text.charAt(0) == 'b';
    }

    private List<int[]> steps() {
        return Model.steps(text);
    }

    private void needDrillAndSpindle() {
        need(text != null, STATE);
        need(spindle != NONE, STATE);
    }

    private int at(int second, int what) {
        range(second, 0, secondsInAll(), OUTSIDE);
        range(what, 0, 6, OUTSIDE);
        needDrillAndSpindle();
        return behind(second, spindle, board)[what];
    }

    private int[] behind(int second, int first, int other) {
        return model.state(bow(), Model.first(steps(), second), first, other, model.arms);
    }

    private int[] ember() {
        needDrillAndSpindle();
        return model.state(bow(), steps(), spindle, board, model.arms);
    }

    // ---- 3 the best, more

    private int grid(int what) {
        range(what, 0, 2, OUTSIDE);
        needDrillAndSpindle();
        return model.grid(bow(), spindle, board)[what];
    }

    private int finish(int what) {
        range(what, 0, 1, OUTSIDE);
        needDrillAndSpindle();
        return model.finish(bow(), steps(), spindle, board)[what];
    }

    private int go(int first) {
        known(first);
        need(text != null, STATE);
        int set = 0;
        for (int other = 0; other < woods(); other++) {
            if (model.state(bow(), steps(), first, other, model.arms)[7] != NONE) set += 1 << other;
        }
        return set;
    }

    private long more(int n, int k, int lane, int i, int which) {
        int[] weights = cells(k, lane, i, 5);
        int lower = 0;
        for (int weight : weights) {
            range(weight, 0, 9, OUTSIDE);
            lower += weight;
        }
        need(lower > 0, OUTSIDE);
        range(n, 0, 60, OUTSIDE);
        range(which, 0, 1, OUTSIDE);
        needDrillAndSpindle();
        need(text.indexOf('p') >= 0, STATE);
        int last = text.lastIndexOf('p');
        List<int[]> longer = Model.grown(steps(), text.charAt(last + 1) - '0', text.charAt(last + 2) - '0', secondsInAll() + n);
        int upper = 0;
        for (int g = 0; g < 5; g++) {
            int arms = Math.min(999, Math.max(0, model.arms - 40 + 20 * g));
            if (model.state(bow(), longer, spindle, board, arms)[7] != NONE) upper += weights[g];
        }
        int common = common(upper, lower);
        return which == 0 ? upper / common : lower / common;
    }

    private static int common(int a, int b) {
        return b == 0 ? a : common(b, a % b);
    }

    // ---- 4 readings

    private int reading(int second, int what, int v) {
        range(second, 0, secondsInAll(), OUTSIDE);
        range(what, 0, 2, OUTSIDE);
        need(text != null, STATE);
        need(readings.size() < 8, FULL);
        readings.add(new int[] {second, what, v});
        return readings.size() - 1;
    }

    private int back(int k) {
        range(k, 0, readings.size(), OUTSIDE);
        for (int r = 0; r < k; r++) readings.remove(readings.size() - 1);
        return readings.size();
    }

    private int fits(int what) {
        range(what, 0, 1, OUTSIDE);
        need(text != null, STATE);
        List<Integer> pairs = new ArrayList<>();
        for (int first = 0; first < woods(); first++) {
            for (int other = 0; other < woods(); other++) {
                boolean so = true;
                for (int[] r : readings) so = so && behind(r[0], first, other)[r[1]] == r[2];
                if (so) pairs.add(6 * first + other);
            }
        }
        if (what == 0) return pairs.size();
        return pairs.isEmpty() ? NONE : pairs.get(0);
    }

    // ---- 5 nests, horns, classes

    private int glimmer() {
        int[] behind = ember();
        need(behind[7] != NONE, STATE);
        return behind[8];
    }

    private int nest(int dry, int loose, int b) {
        range(dry, 0, 9, OUTSIDE);
        range(loose, 0, 9, OUTSIDE);
        range(b, 1, 9, OUTSIDE);
        return Model.flame(glimmer(), dry, loose, b);
    }

    private int blow(int dry, int loose) {
        range(dry, 0, 9, OUTSIDE);
        range(loose, 0, 9, OUTSIDE);
        int glimmer = glimmer();
        for (int second = 1; second <= 60; second++) {
            for (int b = 1; b <= 9; b++) if (Model.flame(glimmer, dry, loose, b) == second) return b;
        }
        return NONE;
    }

    private int carried(int horn) {
        range(horn, 2, 9, OUTSIDE);
        return Model.carried(glimmer(), horn);
    }

    private int lessons(int[] a) {
        int f = a[0];
        int[] pupils = cells(a[1], a[2], a[3], a[4]);
        range(a[4], 1, 12, OUTSIDE);
        range(f, 1, 5, OUTSIDE);
        for (int lacks : pupils) range(lacks, 0, (1 << f) - 1, OUTSIDE);
        range(a[5], -1, f - 1, UNKNOWN);
        return Model.lessons(f, pupils)[a[5] + 1];
    }

    // ---- 6 sheets, parts

    private int sheet(int k, int lane, int n) {
        range(k, 0, 3, UNKNOWN);
        range(lane, 0, 2, OUTSIDE);
        need(n <= 60, OUTSIDE);
        need(n >= 0, SIZE);
        sheets[k] = lane == 0 ? new byte[n] : lane == 1 ? new short[n] : new int[n];
        return 1;
    }

    private int lose(int k) {
        range(k, 0, 3, UNKNOWN);
        boolean had = sheets[k] != null;
        sheets[k] = null;
        return had ? 1 : 0;
    }

    private int put(int k, int i, int v) {
        range(k, 0, 3, UNKNOWN);
        need(sheets[k] != null, NULL);
        range(i, 0, lengthOf(k) - 1, INDEX);
        if (sheets[k] instanceof byte[] bytes) bytes[i] = (byte) v;
        if (sheets[k] instanceof short[] shorts) shorts[i] = (short) v;
        if (sheets[k] instanceof int[] ints) ints[i] = v;
        return 1;
    }

    private int cell(int k, int i, int lane) {
        return cells(k, lane, i, 1)[0];
    }

    private int copy(int k, int i, int other, int j, int n) {
        range(k, 0, 3, UNKNOWN);
        range(other, 0, 3, UNKNOWN);
        need(sheets[k] != null, NULL);
        need(sheets[other] != null, NULL);
        need(laneOf(k) == laneOf(other), CAST);
        range(i, 0, lengthOf(k), INDEX);
        range(j, 0, lengthOf(other), INDEX);
        range(n, 0, Math.min(lengthOf(k) - i, lengthOf(other) - j), INDEX);
        int[] asTheyWere = cells(k, laneOf(k), i, n);
        for (int c = 0; c < n; c++) put(other, j + c, asTheyWere[c]);
        return n;
    }

    private void leave(int... bodies) {
        for (int body : bodies) trace = 31 * trace + body;
    }

    private int say(int w) {
        int[] wood = known(w);
        if (wood[0] == 0) leave(1);
        if (wood[0] == 1) leave(2, 1);
        if (wood[0] == 2) leave(3, 2, 1, 1);
        return wood[0] == 0 ? wood[1] : wood[0] == 1 ? wood[1] + 100 : wood[1] + 100 + wood[1];
    }

    private int stack(int w) {
        boolean pitchy = known(w)[0] == 2;
        leave(pitchy ? 5 : 4);
        return pitchy ? 60 : w;
    }

    private int as(int w, int kind) {
        int[] wood = known(w);
        range(kind, 0, 2, OUTSIDE);
        need(kind <= wood[0], CAST);
        return 1;
    }

    private int many(int what) {
        range(what, 0, 2, OUTSIDE);
        int items = text == null ? 0 : text.split(";").length - 1;
        return new int[] {woods(), items, readings.size()}[what];
    }
}

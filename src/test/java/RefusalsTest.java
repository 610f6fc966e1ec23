import java.lang.reflect.InvocationTargetException;
import java.lang.reflect.Method;
import java.lang.reflect.Modifier;
import java.util.ArrayList;
import java.util.Arrays;
import java.util.List;
import java.util.Map;
import java.util.Set;
import java.util.TreeMap;
import java.util.TreeSet;
import java.util.function.Consumer;

/**
 * The lines of promises 2 to 35 once more, as a table: what each call refuses, in the order told, and the numbers that
 * it just takes. Each set of its refusals is tried at once: the first one is answered, fault() is as told, and
 * nothing else has changed.
 */
public final class RefusalsTest {
    private static final Due DUE = new Due("RefusalsTest");
    private static final int UNKNOWN = EmberDrill.UNKNOWN, OUTSIDE = EmberDrill.OUTSIDE, STATE = EmberDrill.STATE,
        FULL = EmberDrill.FULL;
    private static final int NULL = -11, CAST = -12, INDEX = -13, SIZE = -14;
    private static final int LEAST = Integer.MIN_VALUE, MOST = Integer.MAX_VALUE;
    private static final Map<String, Method> FACE = new TreeMap<>();
    private static final Set<String> TRIED = new TreeSet<>();

    public static void main(String[] args) throws IllegalAccessException, InvocationTargetException {
        for (Method m : EmberDrill.class.getDeclaredMethods()) {
            if (Modifier.isPublic(m.getModifiers())) FACE.put(m.getName(), m);
        }
        for (Line line : lines()) {
            TRIED.add(line.name);
            line.takesItsEdges();
            line.refusesEachAlone();
            line.refusesTheFirstOfSeveral();
        }
        DUE.holds("each call has a line: " + TRIED, TRIED.equals(FACE.keySet()));
        DUE.end();
    }

    private static List<Line> lines() {
        List<Line> lines = new ArrayList<>();
        woods(lines);
        drills(lines);
        best(lines);
        readings(lines);
        nests(lines);
        sheets(lines);
        return lines;
    }

    private static void woods(List<Line> lines) {
        lines.add(new Line("wood", 0, 4, 10, 30).number(0, 0, 2, OUTSIDE).number(1, 0, 9, OUTSIDE)
            .number(2, 0, 30, OUTSIDE).number(3, 20, 60, OUTSIDE).refuses(FULL, s -> s.sixWoods = true));
        lines.add(new Line("ofWood", 1, 0).number(0, 0, Situation.WOODS - 1, UNKNOWN).number(1, 0, 4, OUTSIDE));
        lines.add(new Line("powder", 1, 5).number(0, 0, Situation.WOODS - 1, UNKNOWN).number(1, 1, 9, OUTSIDE));
        lines.add(new Line("take", 2, 2).number(0, 0, Situation.WOODS - 1, UNKNOWN)
            .number(1, 0, Situation.WOODS - 1, UNKNOWN));
        int[] least = {0, 1, 0, 1};
        int[] most = {999, 9, 20, 99};
        for (int what = 0; what < 4; what++) {
            lines.add(new Line("tell", what, 7).refuses(OUTSIDE, s -> s.given[0] = -1, s -> s.given[0] = 4,
                s -> s.given[0] = LEAST, s -> s.given[0] = MOST).number(1, least[what], most[what], OUTSIDE));
        }
        lines.add(new Line("told", 0).number(0, 0, 5, OUTSIDE));
    }

    private static void drills(List<Line> lines) {
        int length = Situation.TEXT.length();
        lines.add(new Line("drill", 3, 2, 0, length).number(0, 3, 3, 0, 3, UNKNOWN).number(1, 2, 2, 0, 2, OUTSIDE)
            .refuses(CAST, s -> s.given[1] = 0, s -> s.given[1] = 1).refuses(NULL, s -> s.given[0] = 2)
            .refuses(SIZE, s -> s.given[3] = -1, s -> s.given[3] = LEAST)
            .refuses(INDEX, s -> s.given[2] = -1, s -> s.given[2] = length + 1, s -> s.given[2] = LEAST,
                s -> s.given[2] = MOST, s -> both(s, 2, 0, length + 1), s -> both(s, 2, 0, MOST),
                s -> both(s, 2, length, 1), s -> both(s, 2, length + 1, 0), s -> both(s, 2, -1, 0))
            .refuses(-102, s -> both(s, 2, 0, 2)));
        lines.add(new Line("ofItem", 0, 0).number(0, 0, Situation.ITEMS - 1, UNKNOWN)
            .refuses(UNKNOWN, s -> s.drilled = false).number(1, 0, 3, OUTSIDE));
        lines.add(new Line("ofDrill", 0).number(0, 0, 1, OUTSIDE).refuses(STATE, s -> s.drilled = false));
        lines.add(new Line("at", 0, 0).number(0, 0, Situation.SECONDS, OUTSIDE).number(1, 0, 6, OUTSIDE).needsDrill());
        lines.add(new Line("ember").needsDrill());
        lines.add(new Line("comes").needsDrill());
    }

    private static void best(List<Line> lines) {
        int length = Situation.BYTES.length;
        lines.add(new Line("grid", 0).number(0, 0, 2, OUTSIDE).needsDrill());
        lines.add(new Line("finish", 0).number(0, 0, 1, OUTSIDE).needsDrill());
        lines.add(new Line("go", 0).number(0, 0, Situation.WOODS - 1, UNKNOWN)
            .refuses(STATE, s -> s.drilled = false));
        lines.add(new Line("more", 0, 0, 0, 0, 0).number(1, 0, 0, 0, 3, UNKNOWN).number(2, 0, 0, 0, 2, OUTSIDE)
            .refuses(CAST, s -> s.given[2] = 1, s -> s.given[2] = 2).refuses(NULL, s -> s.given[1] = 2)
            .refuses(INDEX, s -> s.given[3] = -1, s -> s.given[3] = length - 4, s -> s.given[3] = length + 1,
                s -> s.given[3] = LEAST, s -> s.given[3] = MOST)
            .refuses(OUTSIDE, s -> s.given[3] = Situation.A_10, s -> s.given[3] = Situation.A_4_AND_A_MINUS_1)
            .refuses(OUTSIDE, s -> s.given[3] = Situation.ALL_0).number(0, 0, 60, OUTSIDE).number(4, 0, 1, OUTSIDE)
            .needsDrill().refuses(STATE, s -> s.pressed = false));
    }

    private static void readings(List<Line> lines) {
        lines.add(new Line("reading", 0, 0, 77).number(0, 0, Situation.SECONDS, OUTSIDE).number(1, 0, 2, OUTSIDE)
            .refuses(STATE, s -> s.drilled = false).refuses(FULL, s -> s.eightReadings = true));
        lines.add(new Line("back", 0).number(0, 0, 1, OUTSIDE));
        lines.add(new Line("fits", 0).number(0, 0, 1, OUTSIDE).refuses(STATE, s -> s.drilled = false));
    }

    private static void nests(List<Line> lines) {
        int length = Situation.BYTES.length;
        Consumer<Situation> noEmber = s -> s.embers = false;
        lines.add(new Line("nest", 9, 9, 6).number(0, 0, 9, OUTSIDE).number(1, 0, 9, OUTSIDE).number(2, 1, 9, OUTSIDE)
            .needsDrill().refuses(STATE, noEmber));
        lines.add(new Line("blow", 9, 9).number(0, 0, 9, OUTSIDE).number(1, 0, 9, OUTSIDE)
            .needsDrill().refuses(STATE, noEmber));
        lines.add(new Line("carried", 3).number(0, 2, 9, OUTSIDE).needsDrill().refuses(STATE, noEmber));
        lines.add(new Line("lessons", 2, 0, 0, 0, 3, 0).number(1, 0, 0, 0, 3, UNKNOWN).number(2, 0, 0, 0, 2, OUTSIDE)
            .refuses(CAST, s -> s.given[2] = 1, s -> s.given[2] = 2).refuses(NULL, s -> s.given[1] = 2)
            .refuses(SIZE, s -> s.given[4] = -1, s -> s.given[4] = LEAST)
            .refuses(INDEX, s -> s.given[3] = -1, s -> s.given[3] = length + 1, s -> s.given[3] = LEAST,
                s -> s.given[3] = MOST, s -> both(s, 3, 0, length + 1), s -> both(s, 3, 0, MOST),
                s -> both(s, 3, length, 1), s -> both(s, 3, length + 1, 0), s -> both(s, 3, -1, 0))
            .refuses(OUTSIDE, s -> both(s, 3, 0, 0), s -> both(s, 3, 0, 13), s -> both(s, 3, length, 0),
                s -> both(s, 3, 0, length)).takes(4, 1).takes(4, 12)
            .number(0, 2, 5, 1, 5, OUTSIDE)
            .refuses(OUTSIDE, s -> both(s, 3, Situation.A_4_AND_A_MINUS_1, 3),
                s -> both(s, 3, Situation.A_4_AND_A_MINUS_1 + 3, 2))
            .number(5, -1, 1, UNKNOWN));
    }

    private static void sheets(List<Line> lines) {
        int length = Situation.BYTES.length;
        lines.add(new Line("sheet", 1, 1, 5).number(0, 0, 3, UNKNOWN).number(1, 0, 2, OUTSIDE)
            .refuses(OUTSIDE, s -> s.given[2] = 61, s -> s.given[2] = MOST)
            .refuses(SIZE, s -> s.given[2] = -1, s -> s.given[2] = LEAST).takes(2, 0).takes(2, 60));
        lines.add(new Line("lose", 0).number(0, 0, 3, UNKNOWN));
        lines.add(new Line("put", 0, 0, 7).number(0, 0, 1, 0, 3, UNKNOWN).refuses(NULL, s -> s.given[0] = 2)
            .number(1, 0, length - 1, INDEX));
        lines.add(new Line("cell", 0, 0, 0).number(0, 0, 0, 0, 3, UNKNOWN).number(2, 0, 0, 0, 2, OUTSIDE)
            .refuses(CAST, s -> s.given[2] = 1, s -> s.given[2] = 2).refuses(NULL, s -> s.given[0] = 2)
            .number(1, 0, length - 2, 0, length - 1, INDEX));
        lines.add(new Line("copy", 0, 0, 0, 10, 3).number(0, 0, 0, 0, 3, UNKNOWN).number(2, 0, 0, 0, 3, UNKNOWN)
            .refuses(NULL, s -> s.given[0] = 2).refuses(NULL, s -> s.given[2] = 2)
            .refuses(CAST, s -> s.given[2] = 1, s -> s.given[2] = 3)
            .number(1, 0, length - 3, INDEX).number(3, 0, length - 3, INDEX).number(4, 0, length - 10, INDEX));
        lines.add(new Line("say", 0).number(0, 0, Situation.WOODS - 1, UNKNOWN));
        lines.add(new Line("stack", 0).number(0, 0, Situation.WOODS - 1, UNKNOWN));
        lines.add(new Line("as", 2, 0).number(0, 0, 2, UNKNOWN).number(1, 0, 2, OUTSIDE)
            .refuses(CAST, s -> both(s, 0, 0, 1), s -> both(s, 0, 0, 2), s -> both(s, 0, 1, 2)));
        lines.add(new Line("trace"));
        lines.add(new Line("fault"));
        lines.add(new Line("many", 0).number(0, 0, 2, OUTSIDE));
    }

    /** Two numbers that stand together: from which cell on, how many; a WOOD, a kind. */
    private static void both(Situation s, int argument, int first, int second) {
        s.given[argument] = first;
        s.given[argument + 1] = second;
    }

    private static final class Refusal {
        final int answer;
        final List<Consumer<Situation>> ways;

        Refusal(int answer, List<Consumer<Situation>> ways) {
            this.answer = answer;
            this.ways = ways;
        }

        int fault() {
            return answer <= NULL && answer >= SIZE ? -10 - answer : 0;
        }
    }

    /** A call's line in the document. */
    private static final class Line {
        final String name;
        private final int[] given;
        private final List<Refusal> refusals = new ArrayList<>();
        private final List<int[]> taken = new ArrayList<>();

        Line(String name, int... given) {
            this.name = name;
            this.given = given;
            taken.add(given);
        }

        @SafeVarargs
        @SuppressWarnings("varargs")
        final Line refuses(int answer, Consumer<Situation>... ways) {
            refusals.add(new Refusal(answer, Arrays.asList(ways)));
            return this;
        }

        Line takes(int argument, int v) {
            int[] edge = given.clone();
            edge[argument] = v;
            taken.add(edge);
            return this;
        }

        /** One of what it is given is least .. most. */
        Line number(int argument, int least, int most, int answer) {
            return number(argument, least, most, least, most, answer);
        }

        /** The same, where not all of least .. most go with the rest of what it is given. */
        Line number(int argument, int leastTaken, int mostTaken, int least, int most, int answer) {
            takes(argument, leastTaken).takes(argument, mostTaken);
            return refuses(answer, s -> s.given[argument] = least - 1, s -> s.given[argument] = most + 1,
                s -> s.given[argument] = LEAST, s -> s.given[argument] = MOST);
        }

        Line needsDrill() {
            return refuses(STATE, s -> s.drilled = false).refuses(STATE, s -> s.taken = false);
        }

        void takesItsEdges() throws IllegalAccessException, InvocationTargetException {
            for (int[] edge : taken) {
                EmberDrill x = new Situation(edge).make();
                long answer = call(x, edge);
                DUE.holds(told(edge) + " is taken, not " + answer, answer >= 0 || answer == EmberDrill.NONE
                    || name.equals("trace"));
                DUE.is(told(edge) + ": fault", namesFaults() ? 0 : Situation.FAULT_BEFORE, x.fault());
            }
        }

        void refusesEachAlone() throws IllegalAccessException, InvocationTargetException {
            for (int r = 0; r < refusals.size(); r++) {
                for (int way = 0; way < refusals.get(r).ways.size(); way++) isRefused(1 << r, way);
            }
        }

        void refusesTheFirstOfSeveral() throws IllegalAccessException, InvocationTargetException {
            for (int set = 1; set < 1 << refusals.size(); set++) isRefused(set, set % 7);
        }

        private void isRefused(int set, int way) throws IllegalAccessException, InvocationTargetException {
            Situation s = new Situation(given);
            Refusal first = null;
            // An earlier one has the last word where two of them spoil the same number.
            for (int r = refusals.size() - 1; r >= 0; r--) {
                if ((set >> r & 1) == 0 || isCastOfNothing(r, set)) continue;
                first = refusals.get(r);
                first.ways.get(way % first.ways.size()).accept(s);
            }
            String call = told(s.given) + " with refusals " + Integer.toBinaryString(set);
            EmberDrill x = s.make();
            long answer = call(x, s.given);
            DUE.is(call, answersLong() ? EmberDrill.LOST : first.answer, answer);
            DUE.is(call + ": fault", namesFaults() ? first.fault() : Situation.FAULT_BEFORE, x.fault());
            DUE.holds(call + " changes nothing", Situation.look(s.make()).equals(Situation.look(x)));
        }

        /** Nothing is no CAST. */
        private boolean isCastOfNothing(int r, int set) {
            if (refusals.get(r).answer != CAST) return false;
            for (int o = r + 1; o < refusals.size(); o++) {
                if ((set >> o & 1) == 1 && refusals.get(o).answer == NULL) return true;
            }
            return false;
        }

        private boolean namesFaults() {
            for (Refusal r : refusals) if (r.fault() > 0) return true;
            return false;
        }

        private boolean answersLong() {
            return FACE.get(name).getReturnType() == long.class;
        }

        private String told(int[] with) {
            return name + Arrays.toString(with);
        }

        private long call(EmberDrill x, int[] with) throws IllegalAccessException, InvocationTargetException {
            Object[] boxed = Arrays.stream(with).boxed().toArray();
            return ((Number) FACE.get(name).invoke(x, boxed)).longValue();
        }
    }
}

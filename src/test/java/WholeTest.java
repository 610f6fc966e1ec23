import java.lang.reflect.InvocationTargetException;
import java.lang.reflect.Method;
import java.lang.reflect.Modifier;
import java.util.ArrayList;
import java.util.Arrays;
import java.util.List;
import java.util.Map;
import java.util.Random;
import java.util.TreeMap;
import java.util.TreeSet;
import java.util.function.Supplier;

/** Whole runs of 512 calls by chance (always the same ones), each call's answer compared with Plain's. */
public final class WholeTest {
    private static final Due DUE = new Due("WholeTest");
    private static final int RUNS = 250, CALLS = 512;
    /** What is seldom seen in calls by chance has to come so often in all runs, or they tell too little. */
    private static final int OFTEN = 20;

    private final Map<String, Method> face = new TreeMap<>();
    private final Map<String, Supplier<int[]>> given = new TreeMap<>();
    private final Map<String, Integer> seen = new TreeMap<>();
    private final Random chance = new Random(35);
    private EmberDrill x;
    private Plain plain;
    private int run;
    private int calls;

    public static void main(String[] args) throws IllegalAccessException {
        WholeTest test = new WholeTest();
        for (Method m : EmberDrill.class.getDeclaredMethods()) {
            if (Modifier.isPublic(m.getModifiers())) test.face.put(m.getName(), m);
        }
        test.tellWhatIsGiven();
        DUE.holds("each call of the face is made", test.given.keySet().equals(test.face.keySet()));
        for (int run = 0; run < RUNS; run++) test.aRun(run);
        test.allIsSeen();
        DUE.end();
    }

    private void aRun(int number) throws IllegalAccessException {
        run = number;
        calls = 0;
        x = new EmberDrill();
        plain = new Plain();
        List<String> names = new ArrayList<>(face.keySet());
        // Some runs begin with all there is to tell, others come to it late or never.
        if (chance.nextInt(4) > 0) begin();
        while (calls < CALLS) {
            int what = chance.nextInt(60);
            if (what == 0) writeText();
            else if (what == 1) writeRow(12, 31);
            else if (what == 2) writeRow(5, 9);
            else if (what == 3) trueReading();
            else call(names.get(chance.nextInt(names.size())));
        }
    }

    private void begin() throws IllegalAccessException {
        int woods = of(1, 6);
        for (int w = 0; w < woods; w++) call("wood", of(0, 2), of(0, 9), of(0, run % 3 == 0 ? 30 : 3), of(20, run % 2 == 0 ? 60 : 26));
        call("take", of(0, woods - 1), of(0, woods - 1));
        writeText();
    }

    private void writeText() throws IllegalAccessException {
        int most = run % 4 == 0 ? 60 : 20;
        StringBuilder text = new StringBuilder(chance.nextBoolean() ? "h" : "b");
        int items = run % 10 == 0 ? of(7, 9) : of(1, 4);
        for (int i = 0; i < items; i++) {
            int what = chance.nextInt(6);
            String seconds = String.format("%02d", of(1, most));
            if (what == 0) text.append(";s");
            else if (what == 1) text.append(";r").append(seconds);
            else text.append(";p").append(of(1, 9)).append(of(3, 9)).append(seconds);
        }
        if (chance.nextInt(6) == 0) text.setCharAt(of(0, text.length() - 1), ";psr0679x".charAt(of(0, 8)));
        if (chance.nextInt(12) == 0) text.setLength(of(0, text.length()));
        int k = of(0, 3);
        int lane = of(0, 2);
        int ahead = of(0, 60 - text.length()) / 9;
        call("sheet", k, lane, ahead + text.length());
        for (int i = 0; i < text.length(); i++) call("put", k, ahead + i, text.charAt(i));
        call("drill", k, lane, ahead, text.length());
    }

    private void writeRow(int length, int most) throws IllegalAccessException {
        int k = of(0, 3);
        int lane = of(0, 2);
        call("sheet", k, lane, length);
        for (int i = 0; i < length; i++) call("put", k, i, of(0, most));
        if (length == 5) for (int which = 0; which < 2; which++) call("more", of(0, 60), k, lane, 0, which);
        else for (int q = -1; q < 5; q++) call("lessons", 5, k, lane, of(0, 3), of(1, 9), q);
    }

    /** What is seen now is read, so that some pairs fit. */
    private void trueReading() throws IllegalAccessException {
        int second = of(0, plain.secondsInAll());
        int what = of(0, 2);
        long v = plain.call("at", new int[] {second, what});
        call("reading", second, what, (int) v);
        call("fits", 0);
        call("fits", 1);
    }

    private int of(int least, int most) {
        return least + chance.nextInt(Math.max(0, most - least) + 1);
    }

    /** Mostly one of least .. most. */
    private int some(int least, int most) {
        int how = chance.nextInt(60);
        if (how == 0) return least - 1;
        if (how == 1) return most + 1;
        if (how == 2) return chance.nextBoolean() ? Integer.MIN_VALUE : Integer.MAX_VALUE;
        if (how == 3) return chance.nextInt();
        return of(least, most);
    }

    private int wood() {
        return some(0, plain.woods() - 1);
    }

    /** A SHEET, its LANE, a place in it, how many cells there may be from there on. */
    private int[] cells() {
        int k = of(0, 3);
        int i = some(0, plain.lengthOf(k));
        int lane = chance.nextInt(8) == 0 ? some(0, 2) : Math.max(0, plain.laneOf(k));
        return new int[] {chance.nextInt(12) == 0 ? of(-1, 4) : k, lane, i, Math.max(0, plain.lengthOf(k) - i)};
    }

    private void tellWhatIsGiven() {
        given.put("wood", () -> new int[] {some(0, 2), some(0, 9), some(0, 30), some(20, 60)});
        given.put("ofWood", () -> new int[] {wood(), some(0, 4)});
        given.put("powder", () -> new int[] {wood(), some(1, 9)});
        given.put("take", () -> new int[] {wood(), wood()});
        given.put("tell", () -> {
            int what = some(0, 3);
            int[] most = {999, 9, 20, 99};
            return new int[] {what, some(what % 2 == 0 ? 0 : 1, most[what & 3])};
        });
        given.put("told", () -> new int[] {some(0, 5)});
        given.put("drill", () -> {
            int[] c = cells();
            return new int[] {c[0], c[1], c[2], some(0, c[3])};
        });
        given.put("ofItem", () -> new int[] {some(0, 3), some(0, 3)});
        given.put("ofDrill", () -> new int[] {some(0, 1)});
        given.put("at", () -> new int[] {some(0, plain.secondsInAll()), some(0, 6)});
        given.put("grid", () -> new int[] {some(0, 2)});
        given.put("finish", () -> new int[] {some(0, 1)});
        given.put("go", () -> new int[] {wood()});
        given.put("more", () -> {
            int[] c = cells();
            return new int[] {some(0, 60), c[0], c[1], c[2], some(0, 1)};
        });
        given.put("reading", () -> new int[] {some(0, plain.secondsInAll()), some(0, 2), some(0, 60)});
        given.put("back", () -> new int[] {some(0, Math.min(2, plain.readings()))});
        given.put("fits", () -> new int[] {some(0, 1)});
        given.put("nest", () -> new int[] {some(0, 9), some(0, 9), some(1, 9)});
        given.put("blow", () -> new int[] {some(0, 9), some(0, 9)});
        given.put("carried", () -> new int[] {some(2, 9)});
        given.put("lessons", () -> {
            int[] c = cells();
            return new int[] {some(1, 5), c[0], c[1], c[2], some(0, Math.min(14, c[3])), some(-1, 4)};
        });
        given.put("sheet", () -> new int[] {some(0, 3), some(0, 2), some(0, 60)});
        given.put("lose", () -> new int[] {some(0, 3)});
        given.put("put", () -> {
            int[] c = cells();
            return new int[] {c[0], c[2], chance.nextBoolean() ? of(0, 9) : chance.nextInt()};
        });
        given.put("cell", () -> {
            int[] c = cells();
            return new int[] {c[0], c[2], c[1]};
        });
        given.put("copy", () -> {
            int[] c = cells();
            int other = chance.nextInt(3) == 0 ? some(0, 3) : c[0];
            return new int[] {c[0], c[2], other, some(0, 9), some(0, Math.min(9, c[3]))};
        });
        for (String name : Arrays.asList("say", "stack")) given.put(name, () -> new int[] {wood()});
        given.put("as", () -> new int[] {wood(), some(0, 2)});
        given.put("many", () -> new int[] {some(0, 2)});
        for (String name : Arrays.asList("ember", "comes", "trace", "fault")) given.put(name, () -> new int[0]);
    }

    private void call(String name) throws IllegalAccessException {
        call(name, given.get(name).get());
    }

    private void call(String name, int... a) throws IllegalAccessException {
        if (calls >= CALLS) return;
        calls++;
        String told = "run " + run + " call " + calls + ": " + name + Arrays.toString(a);
        long due = plain.call(name, a);
        try {
            DUE.is(told, due, ((Number) face.get(name).invoke(x, Arrays.stream(a).boxed().toArray())).longValue());
        } catch (InvocationTargetException e) {
            DUE.holds(told + " throws " + e.getCause(), false);
        }
        boolean refused = due < 0 && due >= -14 || due == EmberDrill.LOST;
        seen.merge(name + (refused ? " " + due : ""), 1, Integer::sum);
    }

    /** Each call answered, and each of its refusals, often enough to tell of it. */
    private void allIsSeen() {
        List<String> due = new ArrayList<>(face.keySet());
        String[] refusals = {"wood -2 -4", "ofWood -1 -2", "powder -1 -2", "take -1", "tell -2", "told -2 -9",
            "drill -1 -2 -11 -12 -13 -14", "ofItem -1 -2", "ofDrill -2 -3", "at -2 -3", "ember -3 -9", "comes -3",
            "grid -2 -3 -9", "finish -2 -3 -9", "go -1 -3", "reading -2 -3 -4", "back -2", "fits -2 -3 -9",
            "nest -2 -3 -9", "blow -2 -3 -9", "carried -2 -3", "lessons -1 -2 -11 -12 -13 -14", "sheet -1 -2 -14",
            "lose -1", "put -1 -11 -13", "copy -1 -11 -12 -13", "say -1", "stack -1", "as -1 -2 -12", "many -2"};
        for (String line : refusals) {
            String[] parts = line.split(" ");
            for (int r = 1; r < parts.length; r++) due.add(parts[0] + " " + parts[r]);
        }
        due.add("more " + EmberDrill.LOST);
        due.add("cell " + EmberDrill.LOST);
        for (String what : due) DUE.holds(what + " is seen often: " + seen.get(what), seen.getOrDefault(what, 0) >= OFTEN);
        // Nor may a call refuse what its line does not tell; TRACE and a cell may be any number.
        for (String what : new TreeSet<>(seen.keySet())) {
            boolean anyNumber = what.startsWith("trace ") || what.startsWith("cell ");
            DUE.holds(what + " is told in the document", anyNumber || due.contains(what));
        }
    }
}

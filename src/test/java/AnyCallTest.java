import java.lang.reflect.InvocationTargetException;
import java.lang.reflect.Method;
import java.util.ArrayList;
import java.util.Arrays;
import java.util.Comparator;
import java.util.List;
import java.util.Random;

/** Calls by chance (always the same ones): none throws, what is refused changes nothing, alike runs answer alike. */
public final class AnyCallTest {
    private static final Due DUE = new Due("AnyCallTest");
    private static final int[] EDGES = {Integer.MIN_VALUE, Integer.MIN_VALUE + 1, -101, -2, -1, 60, 61, 120, 1000,
        Integer.MAX_VALUE - 1, Integer.MAX_VALUE};
    /** more and cell, too, but their answers do not tell which. */
    private static final List<String> NAMES_FAULTS = List.of("drill", "lessons", "sheet", "put", "copy", "as");
    private static final String CODES = "hb;psr0123456789";

    public static void main(String[] args) throws IllegalAccessException {
        List<Method> calls = new ArrayList<>();
        for (Method m : EmberDrill.class.getDeclaredMethods()) {
            if (java.lang.reflect.Modifier.isPublic(m.getModifiers())) calls.add(m);
        }
        calls.sort(Comparator.comparing(Method::getName));
        Random chance = new Random(7);
        for (int run = 0; run < 400; run++) aRun(calls, chance, run);
        DUE.end();
    }

    private static int number(Random chance) {
        int how = chance.nextInt(20);
        if (how == 0) return EDGES[chance.nextInt(EDGES.length)];
        if (how == 1) return chance.nextInt();
        if (how < 5) return CODES.charAt(chance.nextInt(CODES.length()));
        return chance.nextInt(how < 15 ? 4 : 40);
    }

    private static void aRun(List<Method> calls, Random chance, int run) throws IllegalAccessException {
        EmberDrill x = new EmberDrill();
        EmberDrill twin = new EmberDrill();
        for (int c = 0; c < 512; c++) {
            if (chance.nextInt(25) == 0) {
                String text = CODES.charAt(chance.nextInt(2)) + ";p" + (1 + chance.nextInt(9)) + (1 + chance.nextInt(9)) + "30;s;r05";
                Due.drill(x, text);
                Due.drill(twin, text);
            }
            Method call = calls.get(chance.nextInt(calls.size()));
            Object[] given = new Object[call.getParameterCount()];
            for (int a = 0; a < given.length; a++) given[a] = number(chance);
            String name = "run " + run + " call " + c + " " + call.getName() + Arrays.toString(given);
            long[] before = look(x);
            try {
                long answer = ((Number) call.invoke(x, given)).longValue();
                checkFault(name, call, answer, x);
                long again = ((Number) call.invoke(twin, given)).longValue();
                // To look at the one changes its fault(), and the twin is not looked at.
                if (!call.getName().equals("fault")) DUE.is(name + " of a twin", answer, again);
                if (isRefusal(call, answer)) DUE.holds(name + " changes nothing", Arrays.equals(before, look(x)));
            } catch (InvocationTargetException e) {
                DUE.holds(name + " throws " + e.getCause(), false);
                return;
            }
        }
    }

    private static void checkFault(String name, Method call, long answer, EmberDrill x) {
        if (!NAMES_FAULTS.contains(call.getName())) return;
        boolean faulted = answer <= -11 && answer >= -14;
        DUE.is(name + ": fault", faulted ? -10 - answer : 0, x.fault());
    }

    private static boolean isRefusal(Method call, long answer) {
        if (call.getName().equals("cell")) return answer == EmberDrill.LOST;
        return answer < 0;
    }

    /** All that can be seen without a change, but for fault(). */
    private static long[] look(EmberDrill x) {
        List<Long> seen = new ArrayList<>();
        for (int what = 0; what < 3; what++) seen.add((long) x.many(what));
        for (int what = 0; what < 6; what++) seen.add((long) x.told(what));
        for (int w = 0; w < 6; w++) for (int what = 0; what < 5; what++) seen.add((long) x.ofWood(w, what));
        for (int i = 0; i < 8; i++) for (int what = 0; what < 4; what++) seen.add((long) x.ofItem(i, what));
        seen.add((long) x.ofDrill(0));
        seen.add((long) x.trace());
        seen.add((long) x.ember());
        seen.add((long) x.fits(0));
        for (int k = 0; k < 4; k++) {
            for (int lane = 0; lane < 3; lane++) for (int i = 0; i <= 60; i += 5) seen.add(x.cell(k, i, lane));
        }
        long[] row = new long[seen.size()];
        for (int s = 0; s < row.length; s++) row[s] = seen.get(s);
        return row;
    }
}

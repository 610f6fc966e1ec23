import java.lang.reflect.InvocationTargetException;
import java.lang.reflect.Method;
import java.lang.reflect.Modifier;
import java.util.ArrayList;
import java.util.Arrays;
import java.util.Comparator;
import java.util.List;
import java.util.Random;

/** Calls by chance (always the same ones): none throws, alike runs answer alike, what is refused changes nothing. */
public final class AnyCallTest {
    private static final Due DUE = new Due("AnyCallTest");
    private static final int[] EDGES = {Integer.MIN_VALUE, Integer.MIN_VALUE + 1, -101, -2, -1, 60, 61, 120, 1000,
        Integer.MAX_VALUE - 1, Integer.MAX_VALUE};
    /** more and cell, too, but their answers do not tell which. */
    private static final List<String> NAMES_FAULTS = List.of("drill", "lessons", "sheet", "put", "copy", "as");
    private static final String CODES = "hb;psr0123456789";
    /** So many that an object is still within its 512 calls when it has been looked at. */
    private static final int CALLS_AHEAD_OF_A_LOOK = 110;

    private final List<Method> face = new ArrayList<>();
    private final Random chance = new Random(7);

    public static void main(String[] args) throws IllegalAccessException {
        AnyCallTest test = new AnyCallTest();
        for (Method m : EmberDrill.class.getDeclaredMethods()) {
            if (Modifier.isPublic(m.getModifiers())) test.face.add(m);
        }
        test.face.sort(Comparator.comparing(Method::getName));
        for (int run = 0; run < 400; run++) test.longRun(run);
        for (int run = 0; run < 3000; run++) test.aRefusedCallBehindARun(run);
        DUE.end();
    }

    private int number() {
        int how = chance.nextInt(20);
        if (how == 0) return EDGES[chance.nextInt(EDGES.length)];
        if (how == 1) return chance.nextInt();
        if (how < 5) return CODES.charAt(chance.nextInt(CODES.length()));
        return chance.nextInt(how < 15 ? 4 : 40);
    }

    private int[] numbers(Method call) {
        int[] given = new int[call.getParameterCount()];
        for (int a = 0; a < given.length; a++) given[a] = number();
        return given;
    }

    private Method someCall() {
        return face.get(chance.nextInt(face.size()));
    }

    /** How many calls it took, on each of the two. */
    private int aDrill(EmberDrill x, EmberDrill twin) {
        String text = CODES.charAt(chance.nextInt(2)) + ";p" + (1 + chance.nextInt(9)) + (1 + chance.nextInt(9)) + "30;s;r05";
        Due.drill(x, text);
        Due.drill(twin, text);
        return text.length() + 2;
    }

    private static long answer(String name, Method call, EmberDrill x, int[] given) throws IllegalAccessException {
        try {
            return ((Number) call.invoke(x, Arrays.stream(given).boxed().toArray())).longValue();
        } catch (InvocationTargetException e) {
            DUE.holds(name + " throws " + e.getCause(), false);
            return Long.MAX_VALUE;
        }
    }

    private void longRun(int run) throws IllegalAccessException {
        EmberDrill x = new EmberDrill();
        EmberDrill twin = new EmberDrill();
        for (int c = 0; c < 500; c += 2) {
            if (c % 50 == 0) c += aDrill(x, twin);
            Method call = someCall();
            int[] given = numbers(call);
            String name = "run " + run + " call " + c + " " + call.getName() + Arrays.toString(given);
            long answer = answer(name, call, x, given);
            DUE.is(name + " of a twin", answer, answer(name, call, twin, given));
            int fault = x.fault();
            DUE.is(name + ": fault of a twin", fault, twin.fault());
            if (!NAMES_FAULTS.contains(call.getName())) continue;
            boolean faulted = answer <= -11 && answer >= -14;
            DUE.is(name + ": fault", faulted ? -10 - answer : 0, fault);
        }
    }

    /** The one is asked for what it refuses, the other is not: then they are looked at. */
    private void aRefusedCallBehindARun(int run) throws IllegalAccessException {
        EmberDrill x = new EmberDrill();
        EmberDrill twin = new EmberDrill();
        for (int c = 0; c < CALLS_AHEAD_OF_A_LOOK; c++) {
            if (c % 40 == 10) c += aDrill(x, twin);
            Method call = someCall();
            int[] given = numbers(call);
            answer(call.getName(), call, x, given);
            answer(call.getName(), call, twin, given);
        }
        Method call = someCall();
        int[] given = numbers(call);
        String name = "refused run " + run + " " + call.getName() + Arrays.toString(given);
        long answer = answer(name, call, x, given);
        boolean refused = answer < 0 && !(call.getName().equals("cell") && answer != EmberDrill.LOST);
        if (refused) DUE.holds(name + " changes nothing", Situation.look(twin).equals(Situation.look(x)));
    }
}

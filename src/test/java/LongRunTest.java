/** "An object is used for at most 512 calls after it has been made": the last of them is answered as the first. */
public final class LongRunTest {
    private static final Due DUE = new Due("LongRunTest");
    private static final int CALLS = 512;

    public static void main(String[] args) {
        tellings();
        rows();
        drills();
        dearCalls();
        DUE.end();
    }

    private static void tellings() {
        EmberDrill x = new EmberDrill();
        x.wood(1, 4, 0, 20);
        int trace = 0;
        for (int c = 1; c < CALLS - 1; c++) {
            DUE.is("say", 104, x.say(0));
            trace = (trace * 31 + 2) * 31 + 1;
        }
        DUE.is("trace in the last call", trace, x.trace());
    }

    private static void rows() {
        EmberDrill x = new EmberDrill();
        for (int c = 0; c < CALLS - 2; c += 2) {
            DUE.is("sheet", 1, x.sheet(c % 4, c % 3, 60));
            DUE.is("put", 1, x.put(c % 4, 59, c));
        }
        DUE.is("sheet", 1, x.sheet(3, 2, 60));
        DUE.is("a cell in the last call", 0, x.cell(3, 59, 2));
    }

    private static void drills() {
        EmberDrill x = Due.dryWoods();
        x.take(0, 0);
        Due.write(x, 0, 0, "b;p5860");
        for (int c = 12; c < CALLS - 1; c++) DUE.is("drill", 1, x.drill(0, 0, 0, 7));
        DUE.is("ember in the last call", 6, x.ember());
    }

    private static void dearCalls() {
        EmberDrill x = new EmberDrill();
        for (int w = 0; w < 6; w++) x.wood(2, 0, 30, 60);
        x.take(0, 5);
        Due.drill(x, "h;p1160;p1160;p1160;p1160;p1160;p1160;p1160;p1160");
        int calls = 6 + 1 + 51;
        for (int r = 0; r < 8; r++) x.reading(480, 2, 60);
        calls += 8;
        int second = x.grid(0);
        int finish = x.finish(0);
        for (calls += 2; calls < CALLS - 3; calls += 3) {
            DUE.is("grid", second, x.grid(0));
            DUE.is("finish", finish, x.finish(0));
            DUE.is("fits", 36, x.fits(0));
        }
        DUE.is("go", 0, x.go(5));
    }
}

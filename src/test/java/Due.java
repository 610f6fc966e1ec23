/** What the tests share: it counts and prints the answers that are not due, and writes TEXTS to SHEETS. */
final class Due {
    private int wrong = 0;
    private final String test;

    Due(String test) {
        this.test = test;
    }

    void is(String call, long want, long got) {
        if (want != got) note(call + " answered " + got + ", due is " + want);
    }

    void holds(String what, boolean so) {
        if (!so) note("it is not so: " + what);
    }

    /** One cause may spoil thousands of answers of a test by chance: the first ones tell enough. */
    private void note(String line) {
        wrong++;
        if (wrong <= 40) System.out.println(test + ": " + line);
    }

    void end() {
        if (wrong != 0) {
            System.out.println(test + ": " + wrong + " answers are not as due");
            System.exit(1);
        }
    }

    /** SHEET 3 gets the TEXT, as ints, and it is drilled by. */
    static int drill(EmberDrill x, String text) {
        write(x, 3, 2, text);
        return x.drill(3, 2, 0, text.length());
    }

    static void write(EmberDrill x, int sheet, int lane, String text) {
        x.sheet(sheet, lane, text.length());
        for (int i = 0; i < text.length(); i++) x.put(sheet, i, text.charAt(i));
    }

    static void row(EmberDrill x, int sheet, int lane, int... cells) {
        x.sheet(sheet, lane, cells.length);
        for (int i = 0; i < cells.length; i++) x.put(sheet, i, cells[i]);
    }

    /** A dry WOOD, a dry SOFT one, a dry PITCHY one: 0, 1, 2. */
    static EmberDrill dryWoods() {
        EmberDrill x = new EmberDrill();
        x.wood(0, 4, 0, 20);
        x.wood(1, 4, 0, 20);
        x.wood(2, 4, 0, 20);
        return x;
    }

    /** Two hard WOODS that give 1 of dust a second: GLIMMER is HEAP, from 6 on. */
    static EmberDrill glimmerOf(int heap) {
        EmberDrill x = new EmberDrill();
        x.wood(0, 9, 0, 20);
        x.wood(0, 8, 0, 20);
        x.take(0, 1);
        x.tell(0, 999);
        x.tell(2, 0);
        x.tell(3, heap);
        drill(x, "b;p5460;p5460");
        return x;
    }
}

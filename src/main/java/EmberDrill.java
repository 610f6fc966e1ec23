/** Fire by two sticks. The document tells what every call answers; README.md tells how to use it. */
public final class EmberDrill {
    public static final int UNKNOWN = -1, OUTSIDE = -2, STATE = -3, FULL = -4, NONE = -9;
    public static final long LOST = Long.MIN_VALUE;

    private static final int NULL = 1, CAST = 2, INDEX = 3, SIZE = 4;
    private static final int FINE = 0;

    private static final int MOST_WOODS = 6, MOST_ITEMS = 8, MOST_READINGS = 8;
    private static final int SHEETS = 4, LANES = 3, MOST_CELLS = 60;
    private static final int KINDS = 3;

    private static final int ARMS = 0, GRIP = 1, COLD = 2, HEAP = 3, MEANS = 4;
    private static final int[] LEAST = {0, 1, 0, 1};
    private static final int[] MOST = {999, 9, 20, 99};

    private static final int STRONGEST = 9;
    private static final int LONGEST_TRY = 120;
    private static final int MOST_MORE = 60;
    private static final int GUESSES = 5;
    private static final int GUESS_STEP = 20;
    private static final int MOST_WEIGHT = 9;
    private static final int MOST_PUPILS = 12, MOST_THINGS = 5;

    private final Wood[] woods = new Wood[MOST_WOODS];
    private int woodCount = 0;
    private int spindleNumber = NONE;
    private int boardNumber = NONE;
    private final int[] means = {300, 6, 5, 20};

    private Drill plan = new Drill();
    private Drill sparePlan = new Drill();
    private final Text text = new Text();
    private final Fire fire = new Fire();

    private final int[] readingSeconds = new int[MOST_READINGS];
    private final int[] readingWhats = new int[MOST_READINGS];
    private final int[] readingValues = new int[MOST_READINGS];
    private int readingCount = 0;

    private final Row[] rows = {new Row(), new Row(), new Row(), new Row()};
    private final School school = new School();
    private final Trail trail = new Trail();
    private int latestFault = 0;

    /** No WOODS, no DRILL, SHEETS that have nothing. */
    public EmberDrill() {
    }

    // ---- 1 woods

    public int wood(int kind, int hard, int wet, int glow) {
        if (!within(kind, 0, KINDS - 1) || !within(hard, 0, 9)) return OUTSIDE;
        if (!within(wet, 0, 30) || !within(glow, 20, 60)) return OUTSIDE;
        if (woodCount >= MOST_WOODS) return FULL;
        woods[woodCount] = newWood(kind, hard, wet, glow);
        woodCount++;
        return woodCount - 1;
    }

    private Wood newWood(int kind, int hard, int wet, int glow) {
        if (kind == 2) return new Pitchy(woodCount, hard, wet, glow);
        if (kind == 1) return new Soft(woodCount, hard, wet, glow);
        return new Wood(woodCount, hard, wet, glow);
    }

    public int ofWood(int w, int what) {
        Wood wood = woodAt(w);
        if (wood == null) return UNKNOWN;
        switch (what) {
            case 0: return wood.kindNumber();
            case 1: return wood.hard;
            case 2: return wood.wet;
            case 3: return wood.glow;
            case 4: return wood.point();
            default: return OUTSIDE;
        }
    }

    public int powder(int w, int press) {
        Wood wood = woodAt(w);
        if (wood == null) return UNKNOWN;
        if (!within(press, 1, STRONGEST)) return OUTSIDE;
        return wood.powderBy(press);
    }

    public int take(int spindle, int board) {
        if (woodAt(spindle) == null || woodAt(board) == null) return UNKNOWN;
        spindleNumber = spindle;
        boardNumber = board;
        return 1;
    }

    public int tell(int what, int v) {
        if (!within(what, 0, MEANS - 1)) return OUTSIDE;
        if (!within(v, LEAST[what], MOST[what])) return OUTSIDE;
        int before = means[what];
        means[what] = v;
        return before;
    }

    public int told(int what) {
        if (within(what, 0, MEANS - 1)) return means[what];
        if (what == 4) return spindleNumber;
        if (what == 5) return boardNumber;
        return OUTSIDE;
    }

    private Wood woodAt(int w) {
        return within(w, 0, woodCount - 1) ? woods[w] : null;
    }

    private static boolean within(int v, int least, int most) {
        return v >= least && v <= most;
    }

    // ---- 2 the drill

    public int drill(int sheet, int lane, int i, int n) {
        int refusal = refusalOfCells(sheet, lane, i, n);
        if (refusal != FINE) return refusal;
        int firstFault = text.read(rows[sheet], i, n, sparePlan);
        if (firstFault != Text.TAKEN) return -100 - firstFault;
        // The spare one was written, so that a TEXT with a fault leaves the DRILL as it was.
        Drill before = plan;
        plan = sparePlan;
        sparePlan = before;
        readingCount = 0;
        return plan.itemCount;
    }

    public int ofItem(int i, int what) {
        Item item = plan.itemAt(i);
        if (item == null) return UNKNOWN;
        switch (what) {
            case 0: return item.letter;
            case 1: return item.press;
            case 2: return item.quick;
            case 3: return item.seconds;
            default: return OUTSIDE;
        }
    }

    public int ofDrill(int what) {
        if (!within(what, 0, 1)) return OUTSIDE;
        if (!plan.isThere()) return STATE;
        if (what == 1) return plan.seconds;
        return plan.byBow ? 1 : 0;
    }

    public int at(int second, int what) {
        if (!within(second, 0, plan.seconds) || !within(what, 0, 6)) return OUTSIDE;
        if (!isReady()) return STATE;
        runPlan(second);
        return fire.shown(what);
    }

    public int ember() {
        if (!isReady()) return STATE;
        runPlan(plan.seconds);
        return fire.emberSecond;
    }

    public int comes() {
        if (!isReady()) return STATE;
        runPlan(plan.seconds);
        return fire.outcome();
    }

    private boolean isReady() {
        return plan.isThere() && woodAt(spindleNumber) != null && woodAt(boardNumber) != null;
    }

    private void runPlan(int seconds) {
        lay(spindleNumber, boardNumber, means[ARMS]);
        plan.run(fire, seconds);
    }

    private void lay(int spindle, int board, int arms) {
        Wood first = woodAt(spindle);
        Wood second = woodAt(board);
        if (first == null || second == null) return;
        fire.begin(first, second, arms, means, plan.byBow);
    }

    // ---- 3 the best, more

    public int grid(int what) {
        if (!within(what, 0, 2)) return OUTSIDE;
        if (!isReady()) return STATE;
        int best = NONE;
        int bestPress = NONE;
        int bestQuick = NONE;
        for (int press = 1; press <= STRONGEST; press++) {
            for (int quick = 1; quick <= STRONGEST; quick++) {
                lay(spindleNumber, boardNumber, means[ARMS]);
                goOn(press, quick, lastUsefulSecond(best));
                if (fire.emberSecond == NONE) continue;
                best = fire.emberSecond;
                bestPress = press;
                bestQuick = quick;
            }
        }
        if (what == 0) return best;
        return what == 1 ? bestPress : bestQuick;
    }

    public int finish(int what) {
        if (!within(what, 0, 1)) return OUTSIDE;
        if (!isReady()) return STATE;
        runPlan(plan.seconds);
        int planned = fire.emberSecond;
        int best = NONE;
        int bestStart = NONE;
        for (int k = 0; k <= plan.seconds && k < LONGEST_TRY; k++) {
            // From here on the EMBER of the DRILL itself comes first, whatever follows.
            if (planned != NONE && k >= planned) break;
            runPlan(k);
            goOn(STRONGEST, STRONGEST, lastUsefulSecond(best));
            if (fire.emberSecond == NONE) continue;
            best = fire.emberSecond;
            bestStart = k;
        }
        if (planned != NONE && (best == NONE || planned < best)) {
            best = planned;
            bestStart = planned;
        }
        return what == 0 ? best : bestStart;
    }

    /** Of two that are alike the earlier one stays, so only a SECOND ahead of the best so far counts. */
    private static int lastUsefulSecond(int best) {
        return best == NONE ? LONGEST_TRY : best - 1;
    }

    private void goOn(int press, int quick, int lastSecond) {
        for (int s = fire.second; s < lastSecond && fire.emberSecond == NONE; s++) {
            fire.spend(press, quick);
        }
    }

    public int go(int spindle) {
        if (woodAt(spindle) == null) return UNKNOWN;
        if (!plan.isThere()) return STATE;
        int set = 0;
        for (int board = 0; board < woodCount; board++) {
            lay(spindle, board, means[ARMS]);
            plan.run(fire, plan.seconds);
            if (fire.emberSecond != NONE) set |= 1 << board;
        }
        return set;
    }

    public long more(int n, int sheet, int lane, int i, int which) {
        if (refusalOfCells(sheet, lane, i, GUESSES) != FINE) return LOST;
        Row weights = rows[sheet];
        int all = sumOfWeights(weights, i);
        if (all <= 0 || !within(n, 0, MOST_MORE) || !within(which, 0, 1)) return LOST;
        Item last = plan.lastPress();
        if (!isReady() || last == null) return LOST;
        int good = 0;
        for (int g = 0; g < GUESSES; g++) {
            int arms = means[ARMS] + (g - GUESSES / 2) * GUESS_STEP;
            if (comesWithMore(n, last, arms)) good += weights.number(i + g);
        }
        int common = greatestCommon(good, all);
        return which == 0 ? good / common : all / common;
    }

    /** The sum of the five weights; 0, if one of them is not as told. */
    private static int sumOfWeights(Row weights, int i) {
        int all = 0;
        for (int g = 0; g < GUESSES; g++) {
            int weight = weights.number(i + g);
            if (!within(weight, 0, MOST_WEIGHT)) return 0;
            all += weight;
        }
        return all;
    }

    private boolean comesWithMore(int n, Item last, int arms) {
        lay(spindleNumber, boardNumber, Math.max(LEAST[ARMS], Math.min(MOST[ARMS], arms)));
        plan.run(fire, plan.seconds);
        goOn(last.press, last.quick, plan.seconds + n);
        return fire.emberSecond != NONE;
    }

    /** At least 1, so that it may divide. */
    private static int greatestCommon(int upper, int lower) {
        for (int d = lower; d > 1; d--) {
            if (upper % d == 0 && lower % d == 0) return d;
        }
        return 1;
    }

    // ---- 4 readings

    public int reading(int second, int what, int v) {
        if (!within(second, 0, plan.seconds) || !within(what, 0, 2)) return OUTSIDE;
        if (!plan.isThere()) return STATE;
        if (readingCount >= MOST_READINGS) return FULL;
        readingSeconds[readingCount] = second;
        readingWhats[readingCount] = what;
        readingValues[readingCount] = v;
        readingCount++;
        return readingCount - 1;
    }

    public int back(int k) {
        if (!within(k, 0, readingCount)) return OUTSIDE;
        readingCount -= k;
        return readingCount;
    }

    public int fits(int what) {
        if (!within(what, 0, 1)) return OUTSIDE;
        if (!plan.isThere()) return STATE;
        int pairs = 0;
        int first = NONE;
        for (int spindle = 0; spindle < woodCount; spindle++) {
            for (int board = 0; board < woodCount; board++) {
                if (!agrees(spindle, board)) continue;
                if (pairs == 0) first = MOST_WOODS * spindle + board;
                pairs++;
            }
        }
        return what == 0 ? pairs : first;
    }

    private boolean agrees(int spindle, int board) {
        lay(spindle, board, means[ARMS]);
        plan.rewind(fire);
        int last = lastReadingSecond();
        for (int s = 0; s <= last; s++) {
            if (!agreesNow(s)) return false;
            plan.step(fire);
        }
        return true;
    }

    private int lastReadingSecond() {
        int last = -1;
        for (int r = 0; r < readingCount; r++) last = Math.max(last, readingSeconds[r]);
        return last;
    }

    private boolean agreesNow(int second) {
        for (int r = 0; r < readingCount; r++) {
            if (readingSeconds[r] != second) continue;
            if (fire.shown(readingWhats[r]) != readingValues[r]) return false;
        }
        return true;
    }

    // ---- 5 nests, horns, classes

    public int nest(int dry, int loose, int b) {
        if (!within(dry, 0, 9) || !within(loose, 0, 9) || !within(b, 1, STRONGEST)) return OUTSIDE;
        int glimmer = glimmerOfEmber();
        if (glimmer == NONE) return STATE;
        return flameSecond(glimmer, dry, loose, b);
    }

    public int blow(int dry, int loose) {
        if (!within(dry, 0, 9) || !within(loose, 0, 9)) return OUTSIDE;
        int glimmer = glimmerOfEmber();
        if (glimmer == NONE) return STATE;
        int best = NONE;
        int bestSecond = NONE;
        for (int b = 1; b <= STRONGEST; b++) {
            int second = flameSecond(glimmer, dry, loose, b);
            if (second == NONE) continue;
            if (bestSecond != NONE && second >= bestSecond) continue;
            best = b;
            bestSecond = second;
        }
        return best;
    }

    public int carried(int horn) {
        if (!within(horn, 2, 9)) return OUTSIDE;
        int glimmer = glimmerOfEmber();
        if (glimmer == NONE) return STATE;
        int hours = 0;
        // GLIMMER is at least 1 less each HOUR, so it bounds the HOURS, too.
        int bound = glimmer;
        for (int h = 1; h <= bound; h++) {
            glimmer -= glimmer / horn + 1;
            if (glimmer < 5) break;
            hours = h;
        }
        return hours;
    }

    /** NONE, if there is nothing to drill with, or no EMBER comes. */
    private int glimmerOfEmber() {
        if (!isReady()) return NONE;
        runPlan(plan.seconds);
        return fire.emberSecond == NONE ? NONE : fire.emberDust;
    }

    private static int flameSecond(int glimmer, int dry, int loose, int b) {
        int change = loose * b / 4 - (10 - dry) - (b > 6 ? b : 0);
        int now = glimmer;
        for (int s = 1; s <= 60; s++) {
            now += change;
            if (now >= 100) return s;
            if (now <= 0) return NONE;
        }
        return NONE;
    }

    public int lessons(int f, int sheet, int lane, int i, int n, int q) {
        int refusal = refusalOfCells(sheet, lane, i, n);
        if (refusal != FINE) return refusal;
        if (!within(n, 1, MOST_PUPILS) || !within(f, 1, MOST_THINGS)) return OUTSIDE;
        Row pupils = rows[sheet];
        int things = (1 << f) - 1;
        for (int p = i; p < i + n; p++) {
            if ((pupils.number(p) & ~things) != 0) return OUTSIDE;
        }
        if (!within(q, -1, f - 1)) return UNKNOWN;
        school.think(f, pupils, i, n);
        return q < 0 ? school.leastSum() : school.thingOfDay(q);
    }

    // ---- 6 sheets, parts

    public int sheet(int k, int lane, int n) {
        latestFault = 0;
        Row row = rowAt(k);
        if (row == null) return UNKNOWN;
        if (!within(lane, 0, LANES - 1) || n > MOST_CELLS) return OUTSIDE;
        if (n < 0) return faulted(SIZE);
        row.renew(lane, n);
        return 1;
    }

    public int lose(int k) {
        Row row = rowAt(k);
        if (row == null) return UNKNOWN;
        if (!row.isThere()) return 0;
        row.vanish();
        return 1;
    }

    public int put(int k, int i, int v) {
        latestFault = 0;
        Row row = rowAt(k);
        if (row == null) return UNKNOWN;
        if (!row.isThere()) return faulted(NULL);
        if (!row.holds(i, 1)) return faulted(INDEX);
        row.write(i, v);
        return 1;
    }

    public long cell(int k, int i, int lane) {
        if (refusalOfCells(k, lane, i, 1) != FINE) return LOST;
        return rows[k].number(i);
    }

    public int copy(int k, int i, int other, int j, int n) {
        latestFault = 0;
        Row from = rowAt(k);
        Row to = rowAt(other);
        if (from == null || to == null) return UNKNOWN;
        if (!from.isThere() || !to.isThere()) return faulted(NULL);
        if (from.lane != to.lane) return faulted(CAST);
        if (!from.holds(i, n) || !to.holds(j, n)) return faulted(INDEX);
        System.arraycopy(from.cells, i, to.cells, j, n);
        return n;
    }

    public int say(int w) {
        Wood wood = woodAt(w);
        return wood == null ? UNKNOWN : wood.telling(trail);
    }

    public int stack(int w) {
        Wood wood = woodAt(w);
        return wood == null ? UNKNOWN : wood.pile(trail);
    }

    public int as(int w, int kind) {
        latestFault = 0;
        Wood wood = woodAt(w);
        if (wood == null) return UNKNOWN;
        if (!within(kind, 0, KINDS - 1)) return OUTSIDE;
        if (kind == 1 && !(wood instanceof Soft)) return faulted(CAST);
        if (kind == 2 && !(wood instanceof Pitchy)) return faulted(CAST);
        return 1;
    }

    public int trace() {
        return trail.number;
    }

    public int fault() {
        return latestFault;
    }

    public int many(int what) {
        switch (what) {
            case 0: return woodCount;
            case 1: return plan.itemCount;
            case 2: return readingCount;
            default: return OUTSIDE;
        }
    }

    private Row rowAt(int k) {
        return within(k, 0, SHEETS - 1) ? rows[k] : null;
    }

    private int faulted(int which) {
        latestFault = which;
        return -10 - which;
    }

    /** FINE, or what a call answers that takes n cells of a SHEET from i on as a row of a LANE. */
    private int refusalOfCells(int sheet, int lane, int i, int n) {
        latestFault = 0;
        Row row = rowAt(sheet);
        if (row == null) return UNKNOWN;
        if (!within(lane, 0, LANES - 1)) return OUTSIDE;
        if (!row.isThere()) return faulted(NULL);
        if (row.lane != lane) return faulted(CAST);
        if (n < 0) return faulted(SIZE);
        if (!row.holds(i, n)) return faulted(INDEX);
        return FINE;
    }

    /** The bodies of TELLING and of how it is STACKED leave their numbers here. */
    private static final class Trail {
        int number = 0;

        void leave(int body) {
            number = 31 * number + body;
        }
    }

    private static interface Piled {
        int ownNumber();

        default int pile(Trail trail) {
            trail.leave(4);
            return ownNumber();
        }
    }

    private static class Wood implements Piled {
        final int number;
        final int hard;
        final int wet;
        final int glow;

        Wood(int number, int hard, int wet, int glow) {
            this.number = number;
            this.hard = hard;
            this.wet = wet;
            this.glow = glow;
        }

        public int ownNumber() {
            return number;
        }

        int kindNumber() {
            return 0;
        }

        int powderBy(int press) {
            return press * (10 - hard) / 10;
        }

        int point() {
            return 10 * glow;
        }

        int telling(Trail trail) {
            return plainTelling(trail);
        }

        /** WOOD's own body, for a PITCHY one, which leaves SOFT's out. */
        final int plainTelling(Trail trail) {
            trail.leave(1);
            return hard;
        }
    }

    private static class Soft extends Wood {
        Soft(int number, int hard, int wet, int glow) {
            super(number, hard, wet, glow);
        }

        int kindNumber() {
            return 1;
        }

        int powderBy(int press) {
            return 2 * super.powderBy(press);
        }

        int telling(Trail trail) {
            trail.leave(2);
            return super.telling(trail) + 100;
        }
    }

    private static final class Pitchy extends Soft {
        Pitchy(int number, int hard, int wet, int glow) {
            super(number, hard, wet, glow);
        }

        int kindNumber() {
            return 2;
        }

        int point() {
            return super.point() + 50;
        }

        int telling(Trail trail) {
            trail.leave(3);
            int soft = super.telling(trail);
            return soft + plainTelling(trail);
        }

        public int pile(Trail trail) {
            trail.leave(5);
            return 60;
        }
    }

    /** What a SHEET has. The cells are ints of any LANE, cut as they come, so that a row is made but once. */
    private static final class Row {
        private static final int NO_LANE = -1;

        final int[] cells = new int[MOST_CELLS];
        int lane = NO_LANE;
        int length = 0;

        boolean isThere() {
            return lane != NO_LANE;
        }

        void renew(int newLane, int newLength) {
            lane = newLane;
            length = Math.max(0, Math.min(MOST_CELLS, newLength));
            for (int i = 0; i < MOST_CELLS; i++) cells[i] = 0;
        }

        void vanish() {
            lane = NO_LANE;
            length = 0;
        }

        boolean holds(int i, int n) {
            return within(i, 0, length) && within(n, 0, length - i);
        }

        int number(int i) {
            return i >= 0 && i < length ? cells[i] : 0;
        }

        void write(int i, int v) {
            if (i < 0 || i >= length) return;
            if (lane == 0) cells[i] = (byte) v;
            else if (lane == 1) cells[i] = (short) v;
            else cells[i] = v;
        }
    }

    private static final class Item {
        static final int PRESS = 0, SAND = 1, REST = 2;

        int letter = SAND;
        int press = 0;
        int quick = 0;
        int seconds = 0;

        void become(int newLetter, int newPress, int newQuick, int newSeconds) {
            letter = newLetter;
            press = newPress;
            quick = newQuick;
            seconds = newSeconds;
        }
    }

    /** The ITEMS of a DRILL, and a place in them from which the next SECOND is taken. */
    private static final class Drill {
        final Item[] items = {new Item(), new Item(), new Item(), new Item(),
            new Item(), new Item(), new Item(), new Item()};
        boolean byBow = false;
        int itemCount = 0;
        int seconds = 0;
        private int nextItem = 0;
        private int spentOfItem = 0;

        boolean isThere() {
            return itemCount > 0;
        }

        void clear(boolean newByBow) {
            byBow = newByBow;
            itemCount = 0;
            seconds = 0;
        }

        void append(int letter, int press, int quick, int itemSeconds) {
            if (itemCount >= items.length) return;
            items[itemCount].become(letter, press, quick, itemSeconds);
            itemCount++;
            seconds += itemSeconds;
        }

        Item itemAt(int i) {
            return within(i, 0, itemCount - 1) ? items[i] : null;
        }

        /** The last ITEM of a press; null, if there is none. */
        Item lastPress() {
            for (int i = itemCount - 1; i >= 0; i--) {
                if (items[i].letter == Item.PRESS) return items[i];
            }
            return null;
        }

        void run(Fire fire, int upTo) {
            rewind(fire);
            for (int s = 0; s < upTo; s++) step(fire);
        }

        void rewind(Fire fire) {
            nextItem = 0;
            spentOfItem = 0;
            strewSand(fire);
        }

        void step(Fire fire) {
            Item item = itemAt(nextItem);
            if (item == null) return;
            fire.spend(item.press, item.quick);
            spentOfItem++;
            if (spentOfItem < item.seconds) return;
            nextItem++;
            spentOfItem = 0;
            strewSand(fire);
        }

        private void strewSand(Fire fire) {
            while (nextItem < itemCount && items[nextItem].letter == Item.SAND) {
                fire.strew();
                nextItem++;
            }
        }
    }

    /** Reads a TEXT. */
    private static final class Text {
        static final int TAKEN = -1;
        // Of no TEXT, so that an end too soon is a fault at the place behind the last code.
        private static final int NO_CODE = 0;
        private static final int NO_DIGIT = -1;

        private Row row = null;
        private int from = 0;
        private int length = 0;
        private int place = 0;

        /** TAKEN, or the FIRST FAULT. */
        int read(Row newRow, int newFrom, int newLength, Drill into) {
            row = newRow;
            from = newFrom;
            length = newLength;
            place = 0;
            int means = code();
            if (means != 'h' && means != 'b') return place;
            into.clear(means == 'b');
            place++;
            for (int k = 0; k < MOST_ITEMS; k++) {
                if (k > 0 && place == length) break;
                if (!readItem(into)) return place;
            }
            return place == length ? TAKEN : place;
        }

        /** False, if it is not one: then place is the FIRST FAULT. */
        private boolean readItem(Drill into) {
            if (code() != ';') return false;
            place++;
            int letter = code();
            if (letter != 'p' && letter != 's' && letter != 'r') return false;
            place++;
            if (letter == 's') {
                into.append(Item.SAND, 0, 0, 0);
                return true;
            }
            int press = letter == 'p' ? readStrength() : 0;
            if (press < 0) return false;
            int quick = letter == 'p' ? readStrength() : 0;
            if (quick < 0) return false;
            int seconds = readSeconds();
            if (seconds < 0) return false;
            into.append(letter == 'p' ? Item.PRESS : Item.REST, press, quick, seconds);
            return true;
        }

        /** A press, a quick; NO_DIGIT. */
        private int readStrength() {
            int strength = digit();
            if (strength < 1) return NO_DIGIT;
            place++;
            return strength;
        }

        private int readSeconds() {
            int tens = digit();
            if (!within(tens, 0, 6)) return NO_DIGIT;
            place++;
            int ones = digit();
            if (ones == NO_DIGIT) return NO_DIGIT;
            int seconds = 10 * tens + ones;
            if (!within(seconds, 1, 60)) {
                // The document names the first digit here, though only the second one spoils it.
                place--;
                return NO_DIGIT;
            }
            place++;
            return seconds;
        }

        private int code() {
            if (row == null || place >= length) return NO_CODE;
            return row.number(from + place);
        }

        private int digit() {
            int code = code();
            return within(code, '0', '9') ? code - '0' : NO_DIGIT;
        }
    }

    /** One try with two WOODS, second by second. */
    private static final class Fire {
        private static final int GLAZED = 5;

        int second = 0;
        int emberSecond = NONE;
        int emberDust = 0;
        private int heat = 0;
        private int dust = 0;
        private int water = 0;
        private int glaze = 0;
        private int strength = 0;
        private int slips = 0;
        private int tires = 0;
        private int arms = 0;
        private int grip = 0;
        private int cold = 0;
        private int heap = 0;
        private int point = 0;
        private boolean byBow = false;
        private final int[] powders = new int[STRONGEST + 1];

        void begin(Wood spindle, Wood board, int newArms, int[] means, boolean newByBow) {
            second = 0;
            emberSecond = NONE;
            emberDust = 0;
            heat = 0;
            dust = 0;
            water = spindle.wet + board.wet;
            glaze = 0;
            strength = newArms;
            slips = 0;
            tires = 0;
            arms = newArms;
            byBow = newByBow;
            if (means.length >= MEANS) {
                grip = means[GRIP];
                cold = means[COLD];
                heap = means[HEAP];
            }
            point = Math.max(spindle.point(), board.point());
            for (int p = 1; p <= STRONGEST; p++) powders[p] = spindle.powderBy(p) + board.powderBy(p);
        }

        /** A press of 0 is a SECOND of rest. */
        void spend(int press, int quick) {
            second++;
            if (press == 0) {
                rest();
            } else if (strength < press + quick) {
                tires++;
                rest();
            } else {
                turn(press, quick);
            }
            if (emberSecond == NONE && dust >= heap && heat >= point) {
                emberSecond = second;
                emberDust = dust;
            }
        }

        void strew() {
            glaze = 0;
        }

        private void rest() {
            heat -= heat * cold / 100;
            strength = Math.min(arms, strength + 3);
        }

        private void turn(int press, int quick) {
            strength -= press + quick;
            int work = workOf(press, quick);
            if (glaze >= GLAZED) work /= 2;
            int steam = Math.min(water, work / 2);
            water -= steam;
            work -= 2 * steam;
            heat += work - heat * cold / 100;
            if (heat >= 100 && within(press, 1, STRONGEST)) dust += powders[press];
            if (press > 2 * quick) glaze++;
        }

        private int workOf(int press, int quick) {
            if (byBow && press > grip) {
                slips++;
                return 0;
            }
            boolean handsGoUp = !byBow && second % 5 == 0;
            return handsGoUp ? 0 : press * quick;
        }

        int shown(int what) {
            switch (what) {
                case 0: return heat;
                case 1: return dust;
                case 2: return water;
                case 3: return glaze;
                case 4: return strength;
                case 5: return slips;
                case 6: return tires;
                default: return OUTSIDE;
            }
        }

        /** COMES, if all ITEMS are behind. */
        int outcome() {
            if (emberSecond != NONE) return 0;
            if (water > 0) return 1;
            if (glaze >= GLAZED) return 2;
            if (slips > 0) return 3;
            if (tires > 0) return 4;
            return dust > 0 ? 5 : 6;
        }
    }

    /** In which order things are taught, so that all have what they lacked soonest together. */
    private static final class School {
        // By the set of things taught so far: the least sum of DAYS that are still to come.
        private final int[] leastRest = new int[1 << MOST_THINGS];
        private int things = 0;

        void think(int newThings, Row pupils, int from, int n) {
            things = Math.max(0, Math.min(MOST_THINGS, newThings));
            int all = (1 << things) - 1;
            leastRest[all] = 0;
            for (int taught = all - 1; taught >= 0; taught--) {
                int next = taught | 1 << bestNext(taught);
                // Each who still lacks something waits a DAY more.
                leastRest[taught] = waiting(taught, pupils, from, n) + leastRest[next & all];
            }
        }

        int leastSum() {
            return leastRest[0];
        }

        int thingOfDay(int q) {
            int taught = 0;
            for (int day = 0; day < q && day < things; day++) taught |= 1 << bestNext(taught);
            return bestNext(taught);
        }

        private static int waiting(int taught, Row pupils, int from, int n) {
            int count = 0;
            for (int p = from; p < from + n; p++) {
                if ((pupils.number(p) & ~taught) != 0) count++;
            }
            return count;
        }

        /** Of several the least thing, so that the row is the first of its like. */
        private int bestNext(int taught) {
            int best = 0;
            int bestSum = Integer.MAX_VALUE;
            for (int t = 0; t < things; t++) {
                int next = taught | 1 << t;
                if (next == taught || leastRest[next] >= bestSum) continue;
                best = t;
                bestSum = leastRest[next];
            }
            return best;
        }
    }
}

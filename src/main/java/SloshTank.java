import java.util.Arrays;

/**
 * Tanks of sloshing liquid on one carrier: what lies in them tick by tick, how far it pulls,
 * and what would be by other fills, walls and ways. Every array is made in the constructor,
 * so that no call makes anything new.
 */
public final class SloshTank {
    public static final int NONE = -1, BAD = -2, STATE = -3, FULL = -4;
    public static final long NO = -4611686018427387904L;

    private static final int MISSING = -11, OUTSIDE = -12, UNLIKE = -13, NEGATIVE = -14;
    private static final int BAD_LEAN = -100, NO_FLOW_TANK = -1000000, NO_FLOW_COLUMN = -1000001;
    private static final int NO_WAY = -100, NO_LEG = -101, FAULT = -100;
    private static final int NO_MOUTH = -5, NO_MOUTH_TOLD = -7, NO_PULL = -1000000;

    private static final int KINDS = 6, TAKEN_WAY = 6, TAKEN_RECORD = 7;
    private static final int MOST_TANKS = 5, MOST_COLUMNS = 12, MOST_HIGH = 99;
    private static final int MOST_MOUTHS = 6, MOST_WAYS = 6, MOST_LEGS = 12, MOST_BYTES = 120;
    private static final int MOST_RECORDS = 8, MOST_LEVELS = 24, MOST_SHEETS = 4, MOST_CELLS = 40;
    private static final int MOST_LEAN = 50, MOST_TICK = 20000, MOST_RUN = 200;
    private static final int MOST_BY = 1200, FILL_PARTS = 24, AHEAD = 60;
    private static final int MOST_WALLS = 6, MOST_ORDERS = 120, MOST_TOLD = 10, TOLD_CELLS = 4;
    private static final int BYTES = 0, SHORTS = 1, INTS = 2;
    private static final int NOWHERE = -1, NEVER = -1, UNREAD = -1, NO_SORT = -1, NO_FAULT = -1;

    private final Rig rig = new Rig();
    private final Liquid now = new Liquid(rig);
    private final Liquid trial = new Liquid(rig);
    private final Liquid kept = new Liquid(rig);
    private boolean hasImage;
    private final Tape tape = new Tape();
    private final Emptying emptying = new Emptying();
    private final Reading[] readings = new Reading[MOST_RECORDS];
    private int readingCount;
    private final Sheet[] sheets = new Sheet[MOST_SHEETS];
    private int leastWorst;

    public SloshTank() {
        for (int r = 0; r < MOST_RECORDS; r++) {
            readings[r] = new Reading();
        }
        for (int s = 0; s < MOST_SHEETS; s++) {
            sheets[s] = new Sheet();
        }
    }

    public int tank(int kind, int columns, int high, int place) {
        return rig.addTank(kind, columns, high, place);
    }

    public int wall(int t, int column, int is) {
        if (!rig.hasTank(t)) {
            return NONE;
        }
        Tank tank = rig.tanks[t];
        if (!tank.hasBorder(column) || !isFlag(is)) {
            return BAD;
        }
        int bit = 1 << column;
        int was = (tank.wallBits & bit) != 0 ? 1 : 0;
        tank.wallBits = is == 1 ? tank.wallBits | bit : tank.wallBits & ~bit;
        return was;
    }

    public int fill(int t, int all) {
        if (!rig.hasTank(t)) {
            return NONE;
        }
        if (!within(all, 0, rig.tanks[t].room())) {
            return BAD;
        }
        int was = now.amount(t);
        now.putIn[t] += all - was;
        now.settle(t, all);
        return was;
    }

    public int feed(int t, int column) {
        if (!rig.hasTank(t)) {
            return NONE;
        }
        if (!rig.tanks[t].hasColumn(column)) {
            return BAD;
        }
        return rig.addMouth(t, column);
    }

    public int draw(int f, int n) {
        if (!rig.hasMouth(f)) {
            return NONE;
        }
        if (!within(n, 0, 50)) {
            return BAD;
        }
        int was = now.draws[f];
        now.draws[f] = n;
        return was;
    }

    public int lean(int n) {
        if (!within(n, -MOST_LEAN, MOST_LEAN)) {
            return BAD_LEAN;
        }
        int was = now.lean;
        now.lean = n;
        return was;
    }

    public int carrier(int what, int v) {
        if (what == 0 && within(v, 1, 50)) {
            int was = rig.heavy;
            rig.heavy = v;
            return was;
        }
        if (what == 1 && within(v, 0, 100000)) {
            int was = rig.grip;
            rig.grip = v;
            return was;
        }
        return BAD;
    }

    public int run(int n) {
        if (!within(n, 1, MOST_RUN)) {
            return BAD;
        }
        if (now.tick + n > MOST_TICK) {
            return FULL;
        }
        now.passTicks(n);
        return now.tick;
    }

    // ---- ways

    public int tell(long w, int n) {
        if (!within(n, 1, 8)) {
            return BAD;
        }
        return tape.append(w, n);
    }

    public int way() {
        if (rig.wayCount == MOST_WAYS) {
            return FULL;
        }
        int fault = tape.readWay(rig.ways[rig.wayCount]);
        tape.length = 0;
        if (fault != NO_FAULT) {
            return FAULT - fault;
        }
        rig.wayCount++;
        return rig.wayCount - 1;
    }

    public int wayTold(int y, int leg, int what) {
        if (!rig.hasWay(y)) {
            return NO_WAY;
        }
        Way told = rig.ways[y];
        if (what == 0) {
            return told.legs;
        }
        if (!within(leg, 0, told.legs - 1)) {
            return NO_LEG;
        }
        return what == 1 ? told.ticks[leg] : what == 2 ? told.leans[leg] : NO_LEG;
    }

    public int go(int y) {
        if (!rig.hasWay(y)) {
            return NONE;
        }
        if (now.way != NOWHERE) {
            return STATE;
        }
        now.setOut(y);
        return y;
    }

    // ---- looking

    public int level(int t, int c) {
        if (!rig.hasTank(t)) {
            return NONE;
        }
        return rig.tanks[t].hasColumn(c) ? now.levels[t][c] : BAD;
    }

    public int flow(int t, int c) {
        if (!rig.hasTank(t)) {
            return NO_FLOW_TANK;
        }
        return rig.tanks[t].hasBorder(c) ? now.flows[t][c] : NO_FLOW_COLUMN;
    }

    public int tankTold(int t, int what) {
        if (!rig.hasTank(t)) {
            return NONE;
        }
        switch (what) {
            case 0: return rig.tanks[t].kind;
            case 1: return now.amount(t);
            case 2: return now.putIn[t];
            case 3: return now.out[t];
            case 4: return rig.tanks[t].room();
            default: return BAD;
        }
    }

    public int kindTold(int kind, int what, int v) {
        if (!Kind.exists(kind) || !within(v, 0, MOST_LEAN)) {
            return BAD;
        }
        switch (what) {
            case 0: return Kind.damp(kind);
            case 1: return Kind.through(kind);
            case 2: return Kind.push(kind, v);
            case 3: return Kind.hasLid(kind) ? 1 : 0;
            default: return BAD;
        }
    }

    public int feedTold(int f, int what) {
        if (!rig.hasMouth(f)) {
            return NO_MOUTH;
        }
        switch (what) {
            case 0: return rig.mouthTanks[f];
            case 1: return rig.mouthColumns[f];
            case 2: return now.draws[f];
            case 3: return now.gulped[f];
            case 4: return now.firstGulps[f];
            default: return NO_MOUTH_TOLD;
        }
    }

    public int pulls(int what) {
        switch (what) {
            case 0: return now.moment();
            case 1: return now.pull();
            default: return NO_PULL;
        }
    }

    public int count(int what) {
        switch (what) {
            case 0: return now.tick;
            case 1: return rig.tankCount;
            case 2: return rig.mouthCount;
            case 3: return now.hits;
            case 4: return now.thrown;
            case 5: return now.drawn;
            case 6: return now.tipped ? 1 : 0;
            case 7: return rig.wayCount;
            case 8: return tape.length;
            case 9: return readingCount;
            default: return BAD;
        }
    }

    // ---- ahead

    public int beside(int y, int n, int what) {
        if (!isCourse(y)) {
            return NONE;
        }
        if (!within(n, 1, MOST_RUN) || !within(what, 0, 4)) {
            return BAD;
        }
        beginTrial(y);
        trial.passTicks(n);
        switch (what) {
            case 0: return trial.worst;
            case 1: return trial.hits - now.hits;
            case 2: return trial.thrown - now.thrown;
            case 3: return trial.worst > rig.grip ? 1 : 0;
            default: return trial.drawn - now.drawn;
        }
    }

    public int worstFill(int t, int y, int by) {
        if (!rig.hasTank(t) || !isCourse(y)) {
            return NONE;
        }
        if (!within(by, 1, MOST_BY)) {
            return BAD;
        }
        int room = rig.tanks[t].room();
        int step = rig.tanks[t].fillStep(by);
        int found = 0;
        int greatest = -1;
        for (int k = 0; k <= FILL_PARTS && k * step <= room; k++) {
            int all = k * step;
            beginTrial(y);
            trial.settle(t, all);
            trial.passTicks(AHEAD);
            if (trial.worst > greatest) {
                greatest = trial.worst;
                found = all;
            }
        }
        return found;
    }

    public int walls(int t, int sheet, int y, int most) {
        if (!rig.hasTank(t) || !isSheet(sheet) || !isCourse(y)) {
            return NONE;
        }
        Sheet told = sheets[sheet];
        if (told.isMissing()) {
            return MISSING;
        }
        if (told.size > MOST_WALLS || !within(most, 0, MOST_WALLS) || !tellsBorders(told, rig.tanks[t])) {
            return BAD;
        }
        return findWalls(rig.tanks[t], told, y, most);
    }

    public int wallsPull() {
        return leastWorst;
    }

    public int drawOrder(int i) {
        if (!within(i, -1, rig.tankCount - 1)) {
            return NONE;
        }
        for (int t = 0; t < rig.tankCount; t++) {
            emptying.loads[t] = now.amount(t) * rig.tanks[t].place;
        }
        int far = emptying.search(rig.tankCount);
        return i < 0 ? far : emptying.best[i];
    }

    // ---- records

    public int record(int t, int column, int y, int sheet) {
        if (!rig.hasTank(t) || !isCourse(y) || !isSheet(sheet)) {
            return NONE;
        }
        if (!rig.tanks[t].hasColumn(column)) {
            return BAD;
        }
        Sheet told = sheets[sheet];
        if (told.isMissing()) {
            return MISSING;
        }
        if (!within(told.size, 1, MOST_LEVELS)) {
            return BAD;
        }
        if (readingCount == MOST_RECORDS) {
            return FULL;
        }
        readings[readingCount].take(t, column, y, told);
        readingCount++;
        return readingCount - 1;
    }

    public int bar(int r, int is) {
        if (!within(r, 0, readingCount - 1)) {
            return NONE;
        }
        if (!isFlag(is)) {
            return BAD;
        }
        int was = readings[r].barred ? 1 : 0;
        readings[r].barred = is == 1;
        return was;
    }

    public int fits(int t, int by, int off, int what) {
        if (!rig.hasTank(t)) {
            return NONE;
        }
        if (!within(by, 1, MOST_BY) || !within(off, 0, MOST_HIGH) || !within(what, 0, 2)) {
            return BAD;
        }
        int room = rig.tanks[t].room();
        int step = rig.tanks[t].fillStep(by);
        int many = 0;
        int least = STATE;
        int greatest = STATE;
        for (int k = 0; k <= FILL_PARTS && k * step <= room; k++) {
            int all = k * step;
            if (letsRecordsBe(t, all, off)) {
                least = many == 0 ? all : least;
                greatest = all;
                many++;
            }
        }
        return what == 0 ? many : what == 1 ? least : greatest;
    }

    // ---- images

    public int image() {
        kept.become(now);
        hasImage = true;
        return now.tick;
    }

    public int back() {
        if (!hasImage) {
            return STATE;
        }
        now.become(kept);
        return now.tick;
    }

    // ---- the host

    public int sheet(int s, int sort, int n) {
        if (!isSheet(s) || !within(sort, NO_SORT, INTS)) {
            return BAD;
        }
        if (sort == NO_SORT) {
            sheets[s].lay(NO_SORT, 0);
            return 1;
        }
        if (n > MOST_CELLS) {
            return BAD;
        }
        if (n < 0) {
            return NEGATIVE;
        }
        sheets[s].lay(sort, n);
        return 1;
    }

    public int cell(int s, int i, int v) {
        if (!isSheet(s)) {
            return BAD;
        }
        if (sheets[s].isMissing()) {
            return MISSING;
        }
        if (!sheets[s].holds(i, 1)) {
            return OUTSIDE;
        }
        sheets[s].put(i, v);
        return 1;
    }

    public int copy(int s, int i, int other, int j, int n) {
        if (!isSheet(s) || !isSheet(other)) {
            return BAD;
        }
        Sheet from = sheets[s];
        Sheet to = sheets[other];
        if (from.isMissing() || to.isMissing()) {
            return MISSING;
        }
        if (from.sort != to.sort) {
            return UNLIKE;
        }
        if (!from.holds(i, n) || !to.holds(j, n)) {
            return OUTSIDE;
        }
        System.arraycopy(from.cells, i, to.cells, j, n);
        return n;
    }

    public int tanks(int s, int sort, int from, int n) {
        if (!isSheet(s) || !within(sort, BYTES, INTS) || !within(n, 0, MOST_TOLD)) {
            return BAD;
        }
        Sheet told = sheets[s];
        if (told.isMissing()) {
            return MISSING;
        }
        if (told.sort != sort) {
            return UNLIKE;
        }
        int came = 0;
        for (int k = 0; k < n; k++) {
            int at = from + TOLD_CELLS * k;
            if (!told.holds(at, TOLD_CELLS)) {
                return OUTSIDE;
            }
            int[] row = told.cells;
            if (rig.addTank(row[at], row[at + 1], row[at + 2], row[at + 3]) >= 0) {
                came++;
            }
        }
        return came;
    }

    public int taken(int what, int i, int kind) {
        if (!within(what, 0, 2) || !within(kind, 0, TAKEN_RECORD)) {
            return BAD;
        }
        int many = what == 0 ? rig.tankCount : what == 1 ? rig.wayCount : readingCount;
        if (!within(i, 0, many - 1)) {
            return MISSING;
        }
        if (what == 0) {
            return Kind.isOne(rig.tanks[i].kind, kind) ? rig.tanks[i].columns : UNLIKE;
        }
        if (what == 1) {
            return kind == TAKEN_WAY ? rig.ways[i].legs : UNLIKE;
        }
        return kind == TAKEN_RECORD ? readings[i].size : UNLIKE;
    }

    // ---- helpers

    private static boolean within(int v, int least, int most) {
        return v >= least && v <= most;
    }

    private static boolean isFlag(int v) {
        return v == 0 || v == 1;
    }

    private static boolean isSheet(int s) {
        return within(s, 0, MOST_SHEETS - 1);
    }

    private boolean isCourse(int y) {
        return y == NOWHERE || rig.hasWay(y);
    }

    private void beginTrial(int y) {
        trial.become(now);
        if (y != NOWHERE) {
            trial.setOut(y);
        }
    }

    private static boolean tellsBorders(Sheet told, Tank tank) {
        for (int i = 0; i < told.size; i++) {
            if (!tank.hasBorder(told.cells[i])) {
                return false;
            }
        }
        return true;
    }

    private int findWalls(Tank tank, Sheet told, int y, int most) {
        int stood = tank.wallBits;
        int others = stood & ~bordersOf(told, -1);
        int found = -1;
        for (int set = 0; set < 1 << told.size; set++) {
            if (Integer.bitCount(set) > most) {
                continue;
            }
            tank.wallBits = others | bordersOf(told, set);
            beginTrial(y);
            trial.passTicks(AHEAD);
            if (found < 0 || trial.worst < leastWorst
                    || trial.worst == leastWorst && Integer.bitCount(set) < Integer.bitCount(found)) {
                found = set;
                leastWorst = trial.worst;
            }
        }
        tank.wallBits = stood;
        return found;
    }

    /** Two numbers of a sheet may name one border: it has its wall if either is in the set. */
    private static int bordersOf(Sheet told, int set) {
        int bits = 0;
        for (int i = 0; i < told.size; i++) {
            if ((set >> i & 1) != 0) {
                bits |= 1 << told.cells[i];
            }
        }
        return bits;
    }

    private boolean letsRecordsBe(int t, int all, int off) {
        for (int r = 0; r < readingCount; r++) {
            Reading reading = readings[r];
            if (reading.tank == t && !reading.barred && !letsRecordBe(reading, all, off)) {
                return false;
            }
        }
        return true;
    }

    private boolean letsRecordBe(Reading reading, int all, int off) {
        beginTrial(reading.way);
        trial.settle(reading.tank, all);
        for (int k = 0; k < reading.size; k++) {
            trial.passTick();
            // A told number may be any int at all, so the difference needs a long.
            long told = reading.levels[k];
            if (told != UNREAD && Math.abs(told - trial.levels[reading.tank][reading.column]) > off) {
                return false;
            }
        }
        return true;
    }

    /** What the kinds of tanks are like, by their numbers. */
    private static final class Kind {
        // A kind's own row holds also what it has from the kind above it.
        private static final int[] ABOVE = {-1, 0, 0, 1, 2, 1};
        private static final int[] DAMP = {10, 15, 50, 35, 90, 15};
        private static final int[] THROUGH = {100, 25, 100, 50, 100, 25};
        private static final int[] PUSH_TIMES = {1, 1, 1, 1, 1, 2};
        private static final int[] PUSH_PARTS = {1, 1, 2, 1, 2, 1};
        private static final int[] LID = {1, 1, 1, 1, 0, 0};

        static boolean exists(int kind) {
            return within(kind, 0, KINDS - 1);
        }

        static int damp(int kind) {
            return DAMP[kind];
        }

        static int through(int kind) {
            return THROUGH[kind];
        }

        static int push(int kind, int lean) {
            int pushed = lean * PUSH_TIMES[kind];
            return PUSH_PARTS[kind] == 2 ? pushed / 2 : pushed;
        }

        static boolean hasLid(int kind) {
            return LID[kind] == 1;
        }

        /** Whether a kind is another one, or one of those below it. */
        static boolean isOne(int kind, int other) {
            int up = kind;
            for (int steps = 0; steps < KINDS && exists(up); steps++) {
                if (up == other) {
                    return true;
                }
                up = ABOVE[up];
            }
            return false;
        }
    }

    /** What never changes of a tank once it stands, and its walls. */
    private static final class Tank {
        int kind;
        int columns;
        int high;
        int place;
        int wallBits;

        int room() {
            return columns * high;
        }

        boolean hasColumn(int c) {
            return within(c, 0, columns - 1);
        }

        boolean hasBorder(int c) {
            return within(c, 0, columns - 2);
        }

        /** By how much each fill that is tried is more: so that FILL_PARTS steps reach up to the room. */
        int fillStep(int by) {
            return Math.max(by, (room() + FILL_PARTS - 1) / FILL_PARTS);
        }
    }

    /** Legs as they are gone. */
    private static final class Way {
        int legs;
        final int[] ticks = new int[MOST_LEGS];
        final int[] leans = new int[MOST_LEGS];

        boolean isWhole() {
            return legs == MOST_LEGS;
        }

        void add(int legTicks, int legLean) {
            if (!isWhole()) {
                ticks[legs] = legTicks;
                leans[legs] = legLean;
                legs++;
            }
        }
    }

    /** All of the carrier that an image doesn't keep: tanks, walls, mouths, ways. */
    private static final class Rig {
        final Tank[] tanks = new Tank[MOST_TANKS];
        int tankCount;
        final int[] mouthTanks = new int[MOST_MOUTHS];
        final int[] mouthColumns = new int[MOST_MOUTHS];
        int mouthCount;
        final Way[] ways = new Way[MOST_WAYS];
        int wayCount;
        int heavy = 10;
        int grip = 2000;

        Rig() {
            for (int t = 0; t < MOST_TANKS; t++) {
                tanks[t] = new Tank();
            }
            for (int y = 0; y < MOST_WAYS; y++) {
                ways[y] = new Way();
            }
        }

        boolean hasTank(int t) {
            return within(t, 0, tankCount - 1);
        }

        boolean hasMouth(int f) {
            return within(f, 0, mouthCount - 1);
        }

        boolean hasWay(int y) {
            return within(y, 0, wayCount - 1);
        }

        int addTank(int kind, int columns, int high, int place) {
            if (!Kind.exists(kind) || !within(columns, 2, MOST_COLUMNS)
                    || !within(high, 1, MOST_HIGH) || !within(place, -50, 50)) {
                return BAD;
            }
            if (tankCount == MOST_TANKS) {
                return FULL;
            }
            Tank tank = tanks[tankCount];
            tank.kind = kind;
            tank.columns = columns;
            tank.high = high;
            tank.place = place;
            tankCount++;
            return tankCount - 1;
        }

        int addMouth(int t, int column) {
            if (mouthCount == MOST_MOUTHS) {
                return FULL;
            }
            mouthTanks[mouthCount] = t;
            mouthColumns[mouthCount] = column;
            mouthCount++;
            return mouthCount - 1;
        }
    }

    /** All that an image keeps, how a tick changes it, and the worst pull since it became so. */
    private static final class Liquid {
        final Rig rig;
        final int[][] levels = new int[MOST_TANKS][MOST_COLUMNS];
        final int[][] flows = new int[MOST_TANKS][MOST_COLUMNS];
        final int[] putIn = new int[MOST_TANKS];
        final int[] out = new int[MOST_TANKS];
        final int[] draws = new int[MOST_MOUTHS];
        final int[] gulped = new int[MOST_MOUTHS];
        final int[] firstGulps = new int[MOST_MOUTHS];
        int tick;
        int lean;
        int way = NOWHERE;
        int nextLeg;
        int ticksLeft;
        int hits;
        int thrown;
        int drawn;
        boolean tipped;
        int worst;

        Liquid(Rig rig) {
            this.rig = rig;
            Arrays.fill(firstGulps, NEVER);
        }

        void become(Liquid other) {
            for (int t = 0; t < MOST_TANKS; t++) {
                System.arraycopy(other.levels[t], 0, levels[t], 0, MOST_COLUMNS);
                System.arraycopy(other.flows[t], 0, flows[t], 0, MOST_COLUMNS);
            }
            System.arraycopy(other.putIn, 0, putIn, 0, MOST_TANKS);
            System.arraycopy(other.out, 0, out, 0, MOST_TANKS);
            System.arraycopy(other.draws, 0, draws, 0, MOST_MOUTHS);
            System.arraycopy(other.gulped, 0, gulped, 0, MOST_MOUTHS);
            System.arraycopy(other.firstGulps, 0, firstGulps, 0, MOST_MOUTHS);
            tick = other.tick;
            lean = other.lean;
            way = other.way;
            nextLeg = other.nextLeg;
            ticksLeft = other.ticksLeft;
            hits = other.hits;
            thrown = other.thrown;
            drawn = other.drawn;
            tipped = other.tipped;
            worst = 0;
        }

        int amount(int t) {
            int sum = 0;
            for (int c = 0; c < rig.tanks[t].columns; c++) {
                sum += levels[t][c];
            }
            return sum;
        }

        /** So much is in a tank, at rest; what was put in is the caller's to tell. */
        void settle(int t, int all) {
            int columns = rig.tanks[t].columns;
            if (columns == 0) {
                return;
            }
            for (int c = 0; c < columns; c++) {
                levels[t][c] = all / columns + (c < all % columns ? 1 : 0);
                flows[t][c] = 0;
            }
        }

        void setOut(int y) {
            way = y;
            nextLeg = 0;
            ticksLeft = 0;
        }

        void passTicks(int n) {
            for (int k = 0; k < n; k++) {
                passTick();
            }
        }

        void passTick() {
            steer();
            for (int t = 0; t < rig.tankCount; t++) {
                swing(t);
            }
            for (int f = 0; f < rig.mouthCount; f++) {
                suck(f);
            }
            int pulled = Math.abs(pull());
            worst = Math.max(worst, pulled);
            if (pulled > rig.grip) {
                tipped = true;
            }
            tick++;
        }

        private void steer() {
            if (!rig.hasWay(way)) {
                return;
            }
            Way gone = rig.ways[way];
            // A leg of no ticks is begun, and the next one behind it in the same tick.
            for (; ticksLeft == 0 && nextLeg < gone.legs; nextLeg++) {
                ticksLeft = gone.ticks[nextLeg];
                lean = gone.leans[nextLeg];
            }
            if (ticksLeft == 0) {
                way = NOWHERE;
                lean = 0;
                return;
            }
            ticksLeft--;
        }

        private void swing(int t) {
            Tank tank = rig.tanks[t];
            int[] level = levels[t];
            int push = 10 * Kind.push(tank.kind, lean);
            int damp = Kind.damp(tank.kind);
            int through = Kind.through(tank.kind);
            for (int c = 0; c < tank.columns - 1; c++) {
                int flow = flows[t][c] + 20 * (level[c] - level[c + 1]) + push;
                flow -= flow * damp / 100;
                if ((tank.wallBits >> c & 1) != 0) {
                    flow = flow * through / 100;
                }
                flows[t][c] = flow;
                pour(t, c);
            }
        }

        /** Lets go over a border what its flow moves. */
        private void pour(int t, int c) {
            Tank tank = rig.tanks[t];
            int[] level = levels[t];
            int flow = flows[t][c];
            int from = flow < 0 ? c + 1 : c;
            int to = flow < 0 ? c : c + 1;
            int leaving = Math.min(Math.abs(flow) / 100, level[from]);
            int staying = Math.min(leaving, tank.high - level[to]);
            int over = leaving - staying;
            level[to] += staying;
            if (over > 0) {
                flows[t][c] = 0;
                if (Kind.hasLid(tank.kind)) {
                    hits++;
                    leaving = staying;
                } else {
                    thrown += over;
                    out[t] += over;
                }
            }
            level[from] -= leaving;
        }

        private void suck(int f) {
            int t = rig.mouthTanks[f];
            int c = rig.mouthColumns[f];
            int got = Math.min(draws[f], levels[t][c]);
            int lacking = draws[f] - got;
            levels[t][c] -= got;
            out[t] += got;
            drawn += got;
            if (lacking > 0) {
                gulped[f] += lacking;
                if (firstGulps[f] == NEVER) {
                    firstGulps[f] = tick;
                }
            }
        }

        int moment() {
            int sum = 0;
            for (int t = 0; t < rig.tankCount; t++) {
                Tank tank = rig.tanks[t];
                for (int c = 0; c < tank.columns; c++) {
                    sum += levels[t][c] * (tank.place + 2 * c - tank.columns + 1);
                }
            }
            return sum;
        }

        int pull() {
            return moment() * rig.heavy / 10 + 20 * lean;
        }
    }

    /** The bytes that were told, and how a way is read from them. */
    private static final class Tape {
        final byte[] bytes = new byte[MOST_BYTES];
        int length;
        private int place;
        private int fault;

        int append(long w, int n) {
            if (length + n > MOST_BYTES) {
                return FULL;
            }
            for (int k = n - 1; k >= 0; k--) {
                bytes[length] = (byte) (w >> 8 * k);
                length++;
            }
            return length;
        }

        /** Reads the whole tape as a way: the place of its fault, or NO_FAULT. */
        int readWay(Way into) {
            into.legs = 0;
            place = 0;
            fault = NO_FAULT;
            // Each round reads one byte at least, or ends at a fault.
            for (int k = 0; k < length && isAhead(); k++) {
                if (bytes[place] == '(') {
                    readGroup(into);
                } else {
                    readLeg(into, true);
                }
            }
            return fault;
        }

        private boolean isAhead() {
            return fault == NO_FAULT && place < length;
        }

        private void readGroup(Way into) {
            place++;
            int times = readNumber();
            expect(':');
            int first = into.legs;
            for (int k = 0; k < length && isAhead() && bytes[place] != ')'; k++) {
                // Legs that are never gone don't count, so there may be any number of them.
                readLeg(into, times > 0);
            }
            int many = into.legs - first;
            if (first + many * times > MOST_LEGS && isAhead()) {
                fault = place;
            }
            expect(')');
            if (fault == NO_FAULT) {
                repeat(into, first, many, times - 1);
            }
        }

        private static void repeat(Way into, int first, int many, int times) {
            for (int again = 0; again < times; again++) {
                for (int k = first; k < first + many; k++) {
                    into.add(into.ticks[k], into.leans[k]);
                }
            }
        }

        private void readLeg(Way into, boolean isGone) {
            int letter = bytes[place];
            if (letter != 's' && letter != 'l' && letter != 'r' || isGone && into.isWhole()) {
                fault = place;
                return;
            }
            place++;
            int ticks = readNumber();
            int lean = 0;
            if (letter != 's') {
                expect('x');
                lean = Math.min(readNumber(), MOST_LEAN);
            }
            expect(';');
            if (isGone && fault == NO_FAULT) {
                into.add(ticks, letter == 'l' ? -lean : lean);
            }
        }

        private int readNumber() {
            int number = 0;
            int digits = 0;
            for (; digits < 2 && isAhead() && isDigit(bytes[place]); digits++) {
                number = number * 10 + bytes[place] - '0';
                place++;
            }
            if (digits == 0 && fault == NO_FAULT) {
                fault = place;
            }
            return number;
        }

        private void expect(char sign) {
            if (isAhead() && bytes[place] == sign) {
                place++;
            } else if (fault == NO_FAULT) {
                fault = place;
            }
        }

        private static boolean isDigit(byte b) {
            return b >= '0' && b <= '9';
        }
    }

    /** In which order tanks are emptied so that the carrier stays most even. */
    private static final class Emptying {
        final int[] loads = new int[MOST_TANKS];
        final int[] best = new int[MOST_TANKS];
        private final int[] order = new int[MOST_TANKS];

        /** Tries all orders of so many tanks, the first one first: how far from even the best is. */
        int search(int many) {
            for (int i = 0; i < many; i++) {
                order[i] = i;
                best[i] = i;
            }
            int least = farFromEven(many);
            for (int k = 1; k < MOST_ORDERS && nextOrder(many); k++) {
                int far = farFromEven(many);
                if (far < least) {
                    least = far;
                    System.arraycopy(order, 0, best, 0, MOST_TANKS);
                }
            }
            return least;
        }

        private int farFromEven(int many) {
            int left = 0;
            for (int i = 0; i < many; i++) {
                left += loads[i];
            }
            int far = Math.abs(left);
            for (int i = 0; i < many; i++) {
                left -= loads[order[i]];
                far = Math.max(far, Math.abs(left));
            }
            return far;
        }

        /** The next order as words are ordered; false behind the last one. */
        private boolean nextOrder(int many) {
            int fall = many - 2;
            while (fall >= 0 && order[fall] > order[fall + 1]) {
                fall--;
            }
            if (fall < 0) {
                return false;
            }
            int next = many - 1;
            while (next > fall && order[next] < order[fall]) {
                next--;
            }
            swap(fall, next);
            for (int a = fall + 1, b = many - 1; a < b; a++, b--) {
                swap(a, b);
            }
            return true;
        }

        private void swap(int a, int b) {
            int kept = order[a];
            order[a] = order[b];
            order[b] = kept;
        }
    }

    /** A record of a column's levels. */
    private static final class Reading {
        int tank;
        int column;
        int way;
        int size;
        final int[] levels = new int[MOST_LEVELS];
        boolean barred;

        void take(int t, int c, int y, Sheet told) {
            tank = t;
            column = c;
            way = y;
            size = Math.min(told.size, MOST_LEVELS);
            System.arraycopy(told.cells, 0, levels, 0, size);
        }
    }

    /** A row of numbers of one sort, or missing. */
    private static final class Sheet {
        int sort = NO_SORT;
        int size;
        final int[] cells = new int[MOST_CELLS];

        boolean isMissing() {
            return sort == NO_SORT;
        }

        void lay(int newSort, int newSize) {
            sort = newSort;
            size = newSize;
            Arrays.fill(cells, 0);
        }

        /** Whether n places from i on lie inside, n itself included. */
        boolean holds(int i, int n) {
            return i >= 0 && n >= 0 && i <= size && n <= size - i;
        }

        void put(int i, int v) {
            cells[i] = sort == BYTES ? (byte) v : sort == SHORTS ? (short) v : v;
        }
    }
}

/** Promises 14 to 20 and the words that they lean on, at their edges. */
public final class EdgeLookTest {
    private static final int NONE = SloshTank.NONE, BAD = SloshTank.BAD;
    private static final int NO_TANK = -1000000, NO_BORDER = -1000001, NO_MOUTH = -5, NO_MOUTH_TOLD = -7, NO_PULL = -1000000;

    public static void main(String[] args) {
        levels();
        levelRefusals();
        flows();
        flowRefusals();
        tanksTold();
        tankToldRefusals();
        kinds();
        kindRefusals();
        mouthsTold();
        mouthRefusals();
        pulls();
        counts();
        fullCounts();
        looksChangeNothing();
        Checks.end("EdgeLookTest");
    }

    private static void levels() {
        SloshTank x = new SloshTank();
        for (int t = 0; t < 5; t++) {
            x.tank(2, 2 + 2 * t, 99, 0);
            x.fill(t, (2 + 2 * t) * (90 + t) + 1);
        }
        for (int t = 0; t < 5; t++) {
            Checks.due("promise 14: the first COLUMN", x.level(t, 0), 91 + t);
            Checks.due("promise 14: the last COLUMN", x.level(t, 1 + 2 * t), 90 + t);
            Checks.due("promise 14: one behind it", x.level(t, 2 + 2 * t), BAD);
        }
        x.fill(4, 990);
        Checks.due("promise 14: the greatest LEVEL", x.level(4, 9), 99);
        x.fill(4, 0);
        Checks.due("promise 14: the least LEVEL", x.level(4, 9), 0);
    }

    private static void levelRefusals() {
        Scenes.refusedEach("promise 14: NONE ahead of BAD, tank", NONE, (x, v) -> x.level(v, -1), -1, 2, 5);
        Scenes.refusedEach("promise 14: far tank", NONE, (x, v) -> x.level(v, 0), Scenes.FAR);
        Scenes.refusedEach("promise 14: COLUMN", BAD, (x, v) -> x.level(0, v), -1, 3, 12);
        Scenes.refusedEach("promise 14: far COLUMN", BAD, (x, v) -> x.level(0, v), Scenes.FAR);
        Scenes.refusedWhenFull("promise 14: no sixth tank", NONE, x -> x.level(5, 0));
    }

    private static void flows() {
        SloshTank x = new SloshTank();
        x.tank(0, 12, 99, 0);
        x.tank(0, 2, 99, 0);
        x.lean(1);
        x.run(1);
        Checks.due("promise 15: the first border", x.flow(0, 0), 9);
        Checks.due("promise 15: the last border", x.flow(0, 10), 9);
        Checks.due("promise 15: the last COLUMN has none", x.flow(0, 11), NO_BORDER);
        Checks.due("promise 15: the one border of two columns", x.flow(1, 0), 9);
        Checks.due("promise 15: the last of two", x.flow(1, 1), NO_BORDER);
    }

    private static void flowRefusals() {
        Scenes.refusedEach("promise 15: TANK ahead of COLUMN", NO_TANK, (x, v) -> x.flow(v, -1), -1, 2, 5);
        Scenes.refusedEach("promise 15: far TANK", NO_TANK, (x, v) -> x.flow(v, 0), Scenes.FAR);
        Scenes.refusedEach("promise 15: COLUMN (the last one, too)", NO_BORDER, (x, v) -> x.flow(0, v), -1, 2, 3);
        Scenes.refusedEach("promise 15: far COLUMN", NO_BORDER, (x, v) -> x.flow(0, v), Scenes.FAR);
    }

    private static void tanksTold() {
        SloshTank x = new SloshTank();
        x.tank(5, 2, 3, 0);
        x.fill(0, 6);
        x.feed(0, 0);
        x.draw(0, 1);
        x.lean(50);
        x.run(1);
        // A tub's 1000 - 150: 3 of 3 into a full one are thrown out; there is none left to draw.
        int[] due = {5, 3, 6, 3, 6};
        for (int what = 0; what < 5; what++) {
            Checks.due("promise 16: what " + what, x.tankTold(0, what), due[what]);
        }
        x.lean(-50);
        x.run(1);
        // -60 - 1000 + 159: 3 come back, 1 of them is drawn.
        Checks.due("promise 16: DRAWN and THROWN are OUT", x.tankTold(0, 3), 4);
        Checks.due("promise 16: is left", x.tankTold(0, 1), 2);
        x.tank(0, 12, 99, 0);
        x.fill(1, 1188);
        Checks.due("promise 16: a full one", x.tankTold(1, 1), x.tankTold(1, 4));
        x.fill(1, 0);
        Checks.due("promise 16: an empty one", x.tankTold(1, 1), 0);
    }

    private static void tankToldRefusals() {
        Scenes.refusedEach("promise 16: NONE ahead of BAD, tank", NONE, (x, v) -> x.tankTold(v, 5), -1, 2, 5);
        Scenes.refusedEach("promise 16: far tank", NONE, (x, v) -> x.tankTold(v, 0), Scenes.FAR);
        Scenes.refusedEach("promise 16: what", BAD, (x, v) -> x.tankTold(0, v), -1, 5);
        Scenes.refusedEach("promise 16: far what", BAD, (x, v) -> x.tankTold(0, v), Scenes.FAR);
    }

    private static void kinds() {
        SloshTank x = new SloshTank();
        int[][] due = {{10, 100, 1}, {15, 25, 1}, {50, 100, 1}, {35, 50, 1}, {90, 100, 0}, {15, 25, 0}};
        for (int kind = 0; kind < 6; kind++) {
            Checks.due("promise 17: DAMP of " + kind, x.kindTold(kind, 0, 50), due[kind][0]);
            Checks.due("promise 17: THROUGH of " + kind, x.kindTold(kind, 1, 0), due[kind][1]);
            Checks.due("promise 17: LID of " + kind, x.kindTold(kind, 3, 1), due[kind][2]);
            for (int v = 0; v <= 50; v++) {
                int push = kind == 2 || kind == 4 ? v / 2 : kind == 5 ? 2 * v : v;
                Checks.due("promise 17: PUSH of " + v + " by KIND " + kind, x.kindTold(kind, 2, v), push);
            }
        }
    }

    private static void kindRefusals() {
        Scenes.refusedEach("promise 17: KIND", BAD, (x, v) -> x.kindTold(v, 0, 0), -1, 6);
        Scenes.refusedEach("promise 17: far KIND", BAD, (x, v) -> x.kindTold(v, 0, 0), Scenes.FAR);
        for (int what = 0; what < 4; what++) {
            int told = what;
            Scenes.refusedEach("promise 17: v of what " + what, BAD, (x, v) -> x.kindTold(0, told, v), -1, 51);
            Scenes.refusedEach("promise 17: far v of what " + what, BAD, (x, v) -> x.kindTold(5, told, v), Scenes.FAR);
        }
        Scenes.refusedEach("promise 17: what", BAD, (x, v) -> x.kindTold(0, v, 0), -1, 4);
        Scenes.refusedEach("promise 17: far what", BAD, (x, v) -> x.kindTold(0, v, 0), Scenes.FAR);
    }

    private static void mouthsTold() {
        SloshTank x = new SloshTank();
        x.tank(0, 2, 9, 0);
        x.tank(0, 12, 9, 0);
        x.feed(1, 11);
        int[] atFirst = {1, 11, 0, 0, -1};
        for (int what = 0; what < 5; what++) {
            Checks.due("promise 18: at first what " + what, x.feedTold(0, what), atFirst[what]);
        }
        x.draw(0, 50);
        x.run(200);
        int[] then = {1, 11, 50, 10000, 0};
        for (int what = 0; what < 5; what++) {
            Checks.due("promise 18: then what " + what, x.feedTold(0, what), then[what]);
        }
    }

    private static void mouthRefusals() {
        Scenes.refusedEach("promise 18: no such MOUTH, ahead of what", NO_MOUTH, (x, v) -> x.feedTold(v, 5), -1, 2, 6);
        Scenes.refusedEach("promise 18: far MOUTH", NO_MOUTH, (x, v) -> x.feedTold(v, 0), Scenes.FAR);
        Scenes.refusedEach("promise 18: what", NO_MOUTH_TOLD, (x, v) -> x.feedTold(0, v), -1, 5);
        Scenes.refusedEach("promise 18: far what", NO_MOUTH_TOLD, (x, v) -> x.feedTold(0, v), Scenes.FAR);
        Scenes.refusedWhenFull("promise 18: no seventh MOUTH", NO_MOUTH, x -> x.feedTold(6, 0));
    }

    private static void pulls() {
        SloshTank x = new SloshTank();
        Checks.due("promise 19: MOMENT without tanks", x.pulls(0), 0);
        x.lean(-1);
        Checks.due("promise 19: PULL without tanks", x.pulls(1), -20);
        x.tank(0, 12, 9, 0);
        for (int c = 0; c < 12; c++) {
            x.fill(0, c + 1);
            // 1 in each of the first c + 1 columns: -11, -9 .. 11 together.
            Checks.due("promise 19: MOMENT of " + (c + 1) + " columns", x.pulls(0), (c + 1) * (c - 11));
        }
        Scenes.refusedEach("promise 19: another what", NO_PULL, SloshTank::pulls, -1, 2);
        Scenes.refusedEach("promise 19: far what", NO_PULL, SloshTank::pulls, Scenes.FAR);
    }

    private static void counts() {
        SloshTank x = Scenes.some();
        int[] due = {4, 2, 2, 0, 1, 4, 0, 2, 5, 2};
        for (int what = 0; what <= 9; what++) {
            Checks.due("promise 20: what " + what, x.count(what), due[what]);
        }
        Scenes.refusedEach("promise 20: what", BAD, SloshTank::count, -1, 10);
        Scenes.refusedEach("promise 20: far what", BAD, SloshTank::count, Scenes.FAR);
    }

    private static void fullCounts() {
        SloshTank x = Scenes.full();
        int[] whats = {0, 1, 2, 7, 8, 9};
        int[] due = {20000, 5, 6, 6, 120, 8};
        for (int k = 0; k < whats.length; k++) {
            Checks.due("promise 20: as many as there is room for, what " + whats[k], x.count(whats[k]), due[k]);
        }
        SloshTank y = new SloshTank();
        y.tank(0, 2, 1, 0);
        y.fill(0, 2);
        y.carrier(1, 0);
        y.lean(50);
        y.run(200);
        Checks.due("promise 20: a HIT in each of 200 TICKS", y.count(3), 200);
        Checks.due("promise 20: TIPPED", y.count(6), 1);
    }

    private static void looksChangeNothing() {
        Scenes.changesNothing("promise 14: level", x -> x.level(0, 1));
        Scenes.changesNothing("promise 15: flow", x -> x.flow(0, 1));
        Scenes.changesNothing("promise 19: pulls", x -> x.pulls(1));
        for (int what = 0; what < 10; what++) {
            int told = what;
            Scenes.changesNothing("promise 16: tankTold", x -> x.tankTold(1, told));
            Scenes.changesNothing("promise 17: kindTold", x -> x.kindTold(5, told, 9));
            Scenes.changesNothing("promise 18: feedTold", x -> x.feedTold(1, told));
            Scenes.changesNothing("promise 20: count", x -> x.count(told));
        }
    }
}

/** Promises 1 to 9 and the words that they lean on, at their edges. */
public final class EdgeTankTest {
    private static final int NONE = SloshTank.NONE, BAD = SloshTank.BAD, FULL = SloshTank.FULL;
    private static final int BAD_LEAN = -100;

    public static void main(String[] args) {
        constants();
        allAsAtFirst();
        lastCallThatCounts();
        leastTank();
        greatestTank();
        tanksOutOfBounds();
        fiveTanks();
        badTankAheadOfFull();
        wallsOfAllBorders();
        wallRefusals();
        atRest();
        fillsFromEmptyToFull();
        putIn();
        fillRefusals();
        sixMouths();
        mouthsAtTheEnds();
        mouthRefusals();
        draws();
        drawRefusals();
        leans();
        carrierBounds();
        carrierRefusals();
        leastAndMostTicks();
        lastTick();
        runRefusals();
        Checks.end("EdgeTankTest");
    }

    private static void constants() {
        Checks.due("the face: NONE", NONE, -1);
        Checks.due("the face: BAD", BAD, -2);
        Checks.due("the face: STATE", SloshTank.STATE, -3);
        Checks.due("the face: FULL", FULL, -4);
        Checks.due("the face: NO", SloshTank.NO, Long.MIN_VALUE / 2);
    }

    private static void allAsAtFirst() {
        SloshTank x = new SloshTank();
        for (int what = 0; what <= 9; what++) {
            Checks.due("promise 1: count " + what, x.count(what), 0);
        }
        Checks.due("promise 1: LEAN at first", x.lean(0), 0);
        Checks.due("promise 1: HEAVY at first", x.carrier(0, 10), 10);
        Checks.due("promise 1: GRIP at first", x.carrier(1, 2000), 2000);
        Checks.due("promise 1: wallsPull at first", x.wallsPull(), 0);
        Checks.due("promise 1: no image at first", x.back(), SloshTank.STATE);
        for (int s = 0; s < 4; s++) {
            Checks.due("promise 1: sheet " + s + " is missing at first", x.cell(s, 0, 0), -11);
        }
        Checks.due("promise 1: no way at first", x.go(0), NONE);
        Checks.due("promise 1: the empty tape is a way", x.way(), 0);
        Checks.due("promise 1: on no way at first", x.go(0), 0);
        Checks.due("promise 1: the first tank", x.tank(0, 2, 1, 0), 0);
        Checks.due("promise 1: the first mouth", x.feed(0, 0), 0);
        x.sheet(0, 0, 1);
        Checks.due("promise 1: the first record", x.record(0, 0, -1, 0), 0);
        Checks.due("promise 1: the first tick", x.run(1), 1);
    }

    private static void lastCallThatCounts() {
        SloshTank x = new SloshTank();
        x.tank(0, 2, 9, 0);
        for (int k = 2; k < 512; k++) {
            x.fill(0, k % 19);
        }
        Checks.due("promise 4: the 512th call", x.fill(0, 18), 511 % 19);
    }

    private static void leastTank() {
        SloshTank x = new SloshTank();
        Checks.due("promise 2: the least of all", x.tank(0, 2, 1, -50), 0);
        Checks.due("promise 2: KIND 0", x.tankTold(0, 0), 0);
        Checks.due("promise 2: 2 COLUMNS", x.taken(0, 0, 0), 2);
        Checks.due("promise 2: ROOM", x.tankTold(0, 4), 2);
        tankAtFirst(x, 2);
        x.fill(0, 1);
        Checks.due("promise 2: PLACE -50", x.pulls(0), -51);
    }

    private static void greatestTank() {
        SloshTank x = new SloshTank();
        Checks.due("promise 2: the greatest of all", x.tank(5, 12, 99, 50), 0);
        Checks.due("promise 2: KIND 5", x.tankTold(0, 0), 5);
        Checks.due("promise 2: 12 COLUMNS", x.taken(0, 0, 5), 12);
        Checks.due("promise 2: ROOM", x.tankTold(0, 4), 1188);
        tankAtFirst(x, 12);
        x.fill(0, 1);
        Checks.due("promise 2: PLACE 50", x.pulls(0), 39);
    }

    private static void tankAtFirst(SloshTank x, int columns) {
        for (int c = 0; c < columns; c++) {
            Checks.due("promise 2: LEVEL at first", x.level(0, c), 0);
        }
        for (int c = 0; c < columns - 1; c++) {
            Checks.due("promise 2: FLOW at first", x.flow(0, c), 0);
            Checks.due("promise 2: no WALL at first", x.wall(0, c, 0), 0);
        }
        for (int what = 1; what <= 3; what++) {
            Checks.due("promise 2: nothing in it, PUT IN, OUT", x.tankTold(0, what), 0);
        }
    }

    private static void tanksOutOfBounds() {
        Scenes.refusedEach("promise 2: KIND", BAD, (x, v) -> x.tank(v, 2, 1, 0), -1, 6);
        Scenes.refusedEach("promise 2: COLUMNS", BAD, (x, v) -> x.tank(0, v, 1, 0), -1, 0, 1, 13);
        Scenes.refusedEach("promise 2: HIGH", BAD, (x, v) -> x.tank(0, 2, v, 0), -1, 0, 100);
        Scenes.refusedEach("promise 2: PLACE", BAD, (x, v) -> x.tank(0, 2, 1, v), -51, 51);
        Scenes.refusedEach("promise 2: far KIND", BAD, (x, v) -> x.tank(v, 2, 1, 0), Scenes.FAR);
        Scenes.refusedEach("promise 2: far COLUMNS", BAD, (x, v) -> x.tank(0, v, 1, 0), Scenes.FAR);
        Scenes.refusedEach("promise 2: far HIGH", BAD, (x, v) -> x.tank(0, 2, v, 0), Scenes.FAR);
        Scenes.refusedEach("promise 2: far PLACE", BAD, (x, v) -> x.tank(0, 2, 1, v), Scenes.FAR);
    }

    private static void fiveTanks() {
        SloshTank x = new SloshTank();
        for (int t = 0; t < 5; t++) {
            Checks.due("promise 2: tanks from 0 on", x.tank(5 - t, 2 + t, 9, 0), t);
        }
        Checks.due("promise 2: no room for a sixth", x.tank(0, 2, 1, 0), FULL);
        Checks.due("promise 2: five tanks", x.count(1), 5);
        Checks.due("promise 2: the last one stays", x.taken(0, 4, 1), 6);
        Scenes.refusedWhenFull("promise 2: a sixth tank", FULL, f -> f.tank(0, 2, 1, 0));
    }

    private static void badTankAheadOfFull() {
        Scenes.refusedWhenFull("promise 2: BAD KIND ahead of FULL", BAD, x -> x.tank(6, 2, 1, 0));
        Scenes.refusedWhenFull("promise 2: BAD COLUMNS ahead of FULL", BAD, x -> x.tank(0, 13, 1, 0));
        Scenes.refusedWhenFull("promise 2: BAD HIGH ahead of FULL", BAD, x -> x.tank(0, 2, 0, 0));
        Scenes.refusedWhenFull("promise 2: BAD PLACE ahead of FULL", BAD, x -> x.tank(0, 2, 1, 51));
    }

    private static void wallsOfAllBorders() {
        SloshTank x = new SloshTank();
        x.tank(1, 12, 9, 0);
        x.tank(1, 12, 9, 0);
        for (int c = 0; c < 11; c += 2) {
            Checks.due("promise 3: none at first", x.wall(0, c, 1), 0);
        }
        for (int c = 0; c < 11; c++) {
            Checks.due("promise 3: border " + c, x.wall(0, c, c & 1), c % 2 == 0 ? 1 : 0);
            Checks.due("promise 3: another tank's border " + c, x.wall(1, c, 0), 0);
        }
        for (int c = 0; c < 11; c++) {
            Checks.due("promise 3: which was, border " + c, x.wall(0, c, 1), c & 1);
        }
        Checks.due("promise 3: a wall that stands", x.wall(0, 10, 1), 1);
        Checks.due("promise 3: taken away", x.wall(0, 10, 0), 1);
        Checks.due("promise 3: none to take away", x.wall(0, 10, 0), 0);
    }

    private static void wallRefusals() {
        Scenes.refusedEach("promise 3: NONE ahead of BAD, tank", NONE, (x, v) -> x.wall(v, -1, 2), -1, 2, 5);
        Scenes.refusedEach("promise 3: far tank", NONE, (x, v) -> x.wall(v, 0, 1), Scenes.FAR);
        Scenes.refusedEach("promise 3: COLUMN (the last one, too)", BAD, (x, v) -> x.wall(0, v, 0), -1, 2, 3);
        Scenes.refusedEach("promise 3: far COLUMN", BAD, (x, v) -> x.wall(0, v, 1), Scenes.FAR);
        Scenes.refusedEach("promise 3: the last COLUMN of two", BAD, (x, v) -> x.wall(1, v, 1), 1, 2);
        // Shifts of 1 by these name border 1 again.
        Scenes.refusedEach("promise 3: COLUMN that a shift cuts", BAD, (x, v) -> x.wall(0, v, 0), 33, 65, -31);
        Scenes.refusedEach("promise 3: is", BAD, (x, v) -> x.wall(0, 1, v), -1, 2);
        Scenes.refusedEach("promise 3: far is", BAD, (x, v) -> x.wall(0, 1, v), Scenes.FAR);
    }

    private static void atRest() {
        SloshTank x = new SloshTank();
        x.tank(0, 4, 3, 0);
        int[][] due = {
            {0, 0, 0, 0}, {1, 0, 0, 0}, {1, 1, 0, 0}, {1, 1, 1, 0}, {1, 1, 1, 1}, {2, 1, 1, 1}, {2, 2, 1, 1}, {2, 2, 2, 1},
            {2, 2, 2, 2}, {3, 2, 2, 2}, {3, 3, 2, 2}, {3, 3, 3, 2}, {3, 3, 3, 3}
        };
        for (int all = 0; all <= 12; all++) {
            Checks.due("promise 4: fill " + all, x.fill(0, all), Math.max(all - 1, 0));
            Checks.levelsDue(x, 0, due[all]);
        }
        x.lean(5);
        x.fill(0, 6);
        x.run(1);
        Checks.holds("promise 4: it flows", x.flow(0, 0) != 0 && x.flow(0, 1) != 0 && x.flow(0, 2) != 0);
        Checks.due("promise 4: the same again", x.fill(0, 6), 6);
        Checks.levelsDue(x, 0, due[6]);
        Checks.flowsDue(x, 0, 0, 0, 0);
    }

    private static void fillsFromEmptyToFull() {
        SloshTank x = new SloshTank();
        x.tank(0, 12, 99, 0);
        Checks.due("promise 4: one below the ROOM", x.fill(0, 1187), 0);
        Checks.due("promise 4: the last column", x.level(0, 11), 98);
        Checks.due("promise 4: the last but one", x.level(0, 10), 99);
        Checks.due("promise 4: the ROOM", x.fill(0, 1188), 1187);
        Checks.due("promise 4: the last column", x.level(0, 11), 99);
        Checks.due("promise 4: above the ROOM", x.fill(0, 1189), BAD);
        Checks.due("promise 4: empty", x.fill(0, 0), 1188);
        Checks.due("promise 4: empty again", x.fill(0, 0), 0);
    }

    private static void putIn() {
        SloshTank x = new SloshTank();
        x.tank(0, 2, 20, 0);
        x.feed(0, 0);
        x.fill(0, 30);
        x.fill(0, 40);
        Checks.due("promise 4: PUT IN by filling more", x.tankTold(0, 2), 40);
        x.fill(0, 26);
        Checks.due("promise 4: PUT IN by filling less", x.tankTold(0, 2), 26);
        x.draw(0, 6);
        x.run(1);
        Checks.due("promise 4: what is out stays PUT IN", x.tankTold(0, 2), 26);
        x.fill(0, 0);
        Checks.due("promise 4: what is out stays, all else is taken", x.tankTold(0, 2), 6);
        Checks.due("promise 4: OUT", x.tankTold(0, 3), 6);
    }

    private static void fillRefusals() {
        Scenes.refusedEach("promise 4: NONE ahead of BAD, tank", NONE, (x, v) -> x.fill(v, -1), -1, 2, 5);
        Scenes.refusedEach("promise 4: far tank", NONE, (x, v) -> x.fill(v, 0), Scenes.FAR);
        Scenes.refusedEach("promise 4: above the ROOM or below 0:", BAD, (x, v) -> x.fill(0, v), -1, 16);
        Scenes.refusedEach("promise 4: another tank's ROOM", BAD, (x, v) -> x.fill(1, v), 9, 15);
        Scenes.refusedEach("promise 4: far fill", BAD, (x, v) -> x.fill(0, v), Scenes.FAR);
    }

    private static void sixMouths() {
        SloshTank x = new SloshTank();
        x.tank(0, 2, 9, 0);
        for (int f = 0; f < 6; f++) {
            Checks.due("promise 5: mouths from 0 on", x.feed(0, f & 1), f);
            Checks.due("promise 5: COLUMN", x.feedTold(f, 1), f & 1);
            Checks.due("promise 5: it DRAWS 0 at first", x.feedTold(f, 2), 0);
        }
        Checks.due("promise 5: no room for a seventh", x.feed(0, 0), FULL);
        Checks.due("promise 5: six", x.count(2), 6);
        Checks.due("promise 5: the last one stays", x.feedTold(5, 1), 1);
        Scenes.refusedWhenFull("promise 5: a seventh", FULL, f -> f.feed(0, 0));
    }

    private static void mouthsAtTheEnds() {
        SloshTank x = new SloshTank();
        x.tank(0, 2, 9, 0);
        x.tank(0, 12, 9, 0);
        Checks.due("promise 5: the first COLUMN of the first tank", x.feed(0, 0), 0);
        Checks.due("promise 5: the last COLUMN of the last tank", x.feed(1, 11), 1);
        Checks.due("promise 5: its tank", x.feedTold(1, 0), 1);
        Checks.due("promise 5: its COLUMN", x.feedTold(1, 1), 11);
    }

    private static void mouthRefusals() {
        Scenes.refusedEach("promise 5: NONE ahead of BAD, tank", NONE, (x, v) -> x.feed(v, -1), -1, 2, 5);
        Scenes.refusedEach("promise 5: far tank", NONE, (x, v) -> x.feed(v, 0), Scenes.FAR);
        Scenes.refusedEach("promise 5: COLUMN", BAD, (x, v) -> x.feed(0, v), -1, 3);
        Scenes.refusedEach("promise 5: COLUMN of the other tank", BAD, (x, v) -> x.feed(1, v), -1, 2);
        Scenes.refusedEach("promise 5: far COLUMN", BAD, (x, v) -> x.feed(0, v), Scenes.FAR);
        Scenes.refusedWhenFull("promise 5: NONE ahead of FULL", NONE, x -> x.feed(5, 0));
        Scenes.refusedWhenFull("promise 5: BAD ahead of FULL", BAD, x -> x.feed(0, 2));
    }

    private static void draws() {
        SloshTank x = new SloshTank();
        x.tank(2, 2, 99, 0);
        x.fill(0, 198);
        x.feed(0, 0);
        Checks.due("promise 6: what it was at first", x.draw(0, 50), 0);
        x.run(1);
        Checks.due("promise 6: 50 are drawn", x.level(0, 0), 49);
        Checks.due("promise 6: what it was", x.draw(0, 0), 50);
        x.run(1);
        Checks.due("promise 6: none is drawn", x.count(5), 50);
        Checks.due("promise 6: what it was", x.draw(0, 1), 0);
        Checks.due("promise 6: what it was", x.draw(0, 1), 1);
    }

    private static void drawRefusals() {
        Scenes.refusedEach("promise 6: NONE ahead of BAD, mouth", NONE, (x, v) -> x.draw(v, 51), -1, 2, 6);
        Scenes.refusedEach("promise 6: far mouth", NONE, (x, v) -> x.draw(v, 0), Scenes.FAR);
        Scenes.refusedEach("promise 6: what it draws", BAD, (x, v) -> x.draw(0, v), -1, 51);
        Scenes.refusedEach("promise 6: far", BAD, (x, v) -> x.draw(1, v), Scenes.FAR);
        Scenes.refusedWhenFull("promise 6: no seventh mouth", NONE, x -> x.draw(6, 0));
    }

    private static void leans() {
        SloshTank x = new SloshTank();
        Checks.due("promise 7: the least LEAN", x.lean(-50), 0);
        Checks.due("promise 7: it pulls", x.pulls(1), -1000);
        Checks.due("promise 7: what it was", x.lean(50), -50);
        Checks.due("promise 7: it pulls", x.pulls(1), 1000);
        Checks.due("promise 7: what it was", x.lean(50), 50);
        Scenes.refusedEach("promise 7: LEAN", BAD_LEAN, SloshTank::lean, -51, 51, -100);
        Scenes.refusedEach("promise 7: far LEAN", BAD_LEAN, SloshTank::lean, Scenes.FAR);
    }

    private static void carrierBounds() {
        SloshTank x = new SloshTank();
        x.tank(0, 12, 99, 50);
        x.tank(0, 12, 99, -50);
        x.fill(0, 1188);
        Checks.due("promise 8: the least HEAVY", x.carrier(0, 1), 10);
        Checks.due("promise 8: a tenth", x.pulls(1), 5940);
        Checks.due("promise 8: the greatest HEAVY", x.carrier(0, 50), 1);
        Checks.due("promise 8: five times", x.pulls(1), 297000);
        Checks.due("promise 8: the greatest GRIP", x.carrier(1, 100000), 2000);
        Checks.due("promise 8: above the greatest GRIP", x.beside(-1, 1, 3), 1);
        x.fill(1, 1188);
        Checks.due("promise 8: 0 is not above it", x.beside(-1, 1, 3), 0);
        Checks.due("promise 8: the least GRIP", x.carrier(1, 0), 100000);
        Checks.due("promise 8: 0 is not above 0", x.beside(-1, 1, 3), 0);
        x.lean(1);
        Checks.due("promise 8: all else is above 0", x.beside(-1, 1, 3), 1);
        Checks.due("promise 8: HEAVY stays by another GRIP", x.carrier(0, 10), 50);
        Checks.due("promise 8: GRIP stays by another HEAVY", x.carrier(1, 10), 0);
    }

    private static void carrierRefusals() {
        Scenes.refusedEach("promise 8: what", BAD, (x, v) -> x.carrier(v, 7), -1, 2);
        Scenes.refusedEach("promise 8: far what", BAD, (x, v) -> x.carrier(v, 7), Scenes.FAR);
        Scenes.refusedEach("promise 8: HEAVY", BAD, (x, v) -> x.carrier(0, v), -1, 0, 51, 2000);
        Scenes.refusedEach("promise 8: far HEAVY", BAD, (x, v) -> x.carrier(0, v), Scenes.FAR);
        Scenes.refusedEach("promise 8: GRIP", BAD, (x, v) -> x.carrier(1, v), -1, 100001);
        Scenes.refusedEach("promise 8: far GRIP", BAD, (x, v) -> x.carrier(1, v), Scenes.FAR);
    }

    private static void leastAndMostTicks() {
        SloshTank x = new SloshTank();
        Checks.wayOf(x, "l99x1;l99x2;l3x3;");
        x.go(0);
        Checks.due("promise 9: one TICK", x.run(1), 1);
        Checks.due("promise 9: 200 TICKS", x.run(200), 201);
        Checks.due("promise 9: all 201 of the way are gone", x.pulls(1), -60);
        x.run(1);
        Checks.due("promise 9: not one less", x.pulls(1), 0);
    }

    private static void lastTick() {
        SloshTank x = new SloshTank();
        for (int k = 1; k <= 99; k++) {
            x.run(200);
        }
        Checks.due("promise 9: 201 are too many at once", x.run(201), BAD);
        Checks.due("promise 9: up to 19999", x.run(199), 19999);
        Checks.due("promise 9: beyond 20000", x.run(2), FULL);
        Checks.due("promise 9: beyond 20000 by far", x.run(200), FULL);
        Checks.due("promise 9: none of them ran", x.count(0), 19999);
        Checks.due("promise 9: the last TICK", x.run(1), 20000);
        Checks.due("promise 9: none is left", x.run(1), FULL);
        Checks.due("promise 9: TICK", x.count(0), 20000);
    }

    private static void runRefusals() {
        Scenes.refusedEach("promise 9: TICKS", BAD, SloshTank::run, -1, 0, 201);
        Scenes.refusedEach("promise 9: far TICKS, whose sum with TICK wraps around", BAD, SloshTank::run, Scenes.FAR);
        Scenes.refusedWhenFull("promise 9: beyond 20000", FULL, x -> x.run(1));
        Scenes.refusedWhenFull("promise 9: beyond 20000", FULL, x -> x.run(200));
        Scenes.refusedWhenFull("promise 9: BAD ahead of FULL", BAD, x -> x.run(201));
        Scenes.refusedWhenFull("promise 9: BAD ahead of FULL", BAD, x -> x.run(0));
        Scenes.refusedWhenFull("promise 9: BAD ahead of FULL", BAD, x -> x.run(Integer.MAX_VALUE));
    }
}

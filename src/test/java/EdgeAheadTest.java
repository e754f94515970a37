/** Promises 21 to 25 and the words that they lean on, at their edges. */
public final class EdgeAheadTest {
    private static final int NONE = SloshTank.NONE, BAD = SloshTank.BAD, MISSING = -11;

    public static void main(String[] args) {
        ticksAhead();
        behindTicksAlone();
        eitherWay();
        aboveGrip();
        inTheseTicksAlone();
        goesOnAsNow();
        beyondTheLastTick();
        besideRefusals();
        stepsOfFills();
        ofLikeFillsTheLeast();
        atRestInItNow();
        sixtyTicksOfFills();
        worstFillRefusals();
        noBordersToSix();
        soManyAtMost();
        ofLikeSets();
        toldOnesAndOthers();
        sixtyTicksOfWalls();
        wallsRefusals();
        wallsFoundLast();
        noTankToFive();
        atFirstAndBehindEach();
        ofLikeOrdersTheFirst();
        drawOrderRefusals();
        Checks.end("EdgeAheadTest");
    }

    private static void ticksAhead() {
        SloshTank x = new SloshTank();
        Checks.wayOf(x, "r1x5;r1x6;s99;s98;r1x7;r1x8;");
        Checks.due("promise 21: 1 TICK", x.beside(0, 1, 0), 100);
        Checks.due("promise 21: 2 TICKS", x.beside(0, 2, 0), 120);
        Checks.due("promise 21: 199 TICKS", x.beside(0, 199, 0), 120);
        Checks.due("promise 21: 200 TICKS", x.beside(0, 200, 0), 140);
    }

    private static void behindTicksAlone() {
        SloshTank x = new SloshTank();
        Checks.wayOf(x, "s9;");
        x.lean(50);
        Checks.due("promise 21: WORST is not of what is now", x.beside(0, 9, 0), 0);
        Checks.due("promise 21: but for as now", x.beside(-1, 1, 0), 1000);
    }

    private static void eitherWay() {
        SloshTank x = new SloshTank();
        Checks.wayOf(x, "l1x9;r1x8;");
        Checks.wayOf(x, "l1x8;r1x9;");
        Checks.due("promise 21: below 0", x.beside(0, 2, 0), 180);
        Checks.due("promise 21: above 0", x.beside(1, 2, 0), 180);
    }

    private static void aboveGrip() {
        SloshTank x = new SloshTank();
        x.lean(-20);
        x.carrier(1, 400);
        Checks.due("promise 21: 400 is not above 400", x.beside(-1, 5, 3), 0);
        x.carrier(1, 399);
        Checks.due("promise 21: 400 is above 399", x.beside(-1, 5, 3), 1);
        Checks.due("promise 21: it has not TIPPED", x.count(6), 0);
        x.run(1);
        x.lean(0);
        Checks.due("promise 21: that it has TIPPED does not matter", x.beside(-1, 5, 3), 0);
    }

    private static void inTheseTicksAlone() {
        SloshTank x = new SloshTank();
        x.tank(0, 2, 9, 0);
        x.tank(5, 2, 3, 0);
        x.fill(0, 18);
        x.fill(1, 6);
        x.feed(0, 1);
        x.draw(0, 1);
        x.lean(50);
        x.run(1);
        int[] ran = {x.count(3), x.count(4), x.count(5)};
        Checks.holds("promise 21: there are HITS, THROWN, DRAWN", ran[0] == 1 && ran[1] == 3 && ran[2] == 1);
        int[] what = {1, 2, 4};
        int[] ahead = {x.beside(-1, 1, 1), x.beside(-1, 1, 2), x.beside(-1, 1, 4)};
        x.run(1);
        for (int k = 0; k < 3; k++) {
            Checks.due("promise 21: in these TICKS, what " + what[k], ahead[k], x.count(3 + k) - ran[k]);
        }
    }

    private static void goesOnAsNow() {
        SloshTank x = new SloshTank();
        Checks.wayOf(x, "r2x1;r2x2;r2x3;");
        x.go(0);
        x.run(1);
        Checks.due("promise 21: the leg's last TICK", x.beside(-1, 1, 0), 20);
        Checks.due("promise 21: the next leg", x.beside(-1, 3, 0), 40);
        Checks.due("promise 21: from its start", x.beside(0, 2, 0), 20);
        Checks.due("promise 21: all of it", x.beside(0, 200, 0), 60);
        x.run(5);
        x.lean(0);
        Checks.due("promise 21: the WAY is over", x.beside(-1, 1, 0), 0);
        Checks.due("promise 21: it is where it was", x.go(0), SloshTank.STATE);
        anotherWayFromItsStart();
    }

    /** What is left of the leg that it is on does not delay another way. */
    private static void anotherWayFromItsStart() {
        SloshTank x = new SloshTank();
        Checks.wayOf(x, "r9x1;");
        Checks.wayOf(x, "r1x2;s9;");
        x.go(0);
        x.run(1);
        Checks.due("promise 21: another WAY at once", x.beside(1, 1, 0), 40);
        Checks.due("promise 21: its own LEAN alone", x.beside(1, 9, 0), 40);
        Checks.due("promise 21: as now", x.beside(-1, 9, 0), 20);
    }

    private static void beyondTheLastTick() {
        SloshTank x = new SloshTank();
        for (int k = 0; k < 100; k++) {
            x.run(200);
        }
        x.tank(0, 2, 9, 0);
        x.fill(0, 18);
        x.feed(0, 0);
        x.draw(0, 1);
        x.lean(-50);
        Checks.due("promise 21: all is DRAWN beyond TICK 20000", x.beside(-1, 200, 4), 18);
        Checks.due("promise 28: fills there", x.fits(0, 1, 0, 0), 19);
        x.sheet(0, 0, 0);
        Checks.due("promise 23: WALLS there", x.walls(0, 0, -1, 0), 0);
        Checks.due("promise 24: their WORST", x.wallsPull(), x.beside(-1, 60, 0));
        Checks.due("promise 9: TICK stays", x.count(0), 20000);
        Scenes.changesNothing("promise 21: beside", s -> s.beside(1, 200, 0));
        Scenes.changesNothing("promise 21: beside as now", s -> s.beside(-1, 200, 3));
    }

    private static void besideRefusals() {
        Scenes.refusedEach("promise 21: NONE ahead of BAD, way", NONE, (x, v) -> x.beside(v, 0, 9), -2, 2, 6);
        Scenes.refusedEach("promise 21: far way", NONE, (x, v) -> x.beside(v, 1, 0), Scenes.FAR);
        Scenes.refusedEach("promise 21: n", BAD, (x, v) -> x.beside(-1, v, 0), -1, 0, 201);
        Scenes.refusedEach("promise 21: far n", BAD, (x, v) -> x.beside(1, v, 0), Scenes.FAR);
        Scenes.refusedEach("promise 21: what", BAD, (x, v) -> x.beside(-1, 1, v), -1, 5);
        Scenes.refusedEach("promise 21: far what", BAD, (x, v) -> x.beside(1, 1, v), Scenes.FAR);
    }

    /** Far to one side the fullest fill that is tried pulls most: it tells which ones are tried. */
    private static void stepsOfFills() {
        // columns, high, by, the greatest fill tried
        int[][] due = {
            {2, 1, 1, 2}, {2, 1, 2, 2}, {2, 1, 3, 0}, {2, 11, 1, 22}, {2, 12, 1, 24}, {4, 6, 1, 24}, {5, 5, 1, 24}, {5, 5, 2, 24},
            {5, 5, 3, 24}, {5, 5, 5, 25}, {2, 13, 1, 26}, {6, 20, 7, 119}, {4, 12, 1, 48},
            {7, 7, 1, 48}, {7, 7, 2, 48}, {7, 7, 3, 48}, {7, 7, 4, 48}, {7, 7, 48, 48},
            {7, 7, 49, 49}, {7, 7, 50, 0}, {12, 99, 1, 1150}, {12, 99, 49, 1150}, {12, 99, 50, 1150}, {12, 99, 51, 1173},
            {12, 99, 1187, 1187}, {12, 99, 1188, 1188}, {12, 99, 1189, 0}, {12, 99, 1200, 0}, {12, 98, 1, 1176}
        };
        for (int[] row : due) {
            SloshTank x = new SloshTank();
            x.tank(2, row[0], row[1], 50);
            String what = "of " + row[0] * row[1] + " by " + row[2];
            Checks.due("promise 22: WORST FILL " + what, x.worstFill(0, -1, row[2]), row[3]);
            Checks.due("promise 28: the greatest fill " + what, x.fits(0, row[2], 0, 2), row[3]);
            int step = Math.max(row[2], (row[0] * row[1] + 23) / 24);
            Checks.due("promise 28: how many " + what, x.fits(0, row[2], 0, 0), row[3] / step + 1);
        }
    }

    private static void ofLikeFillsTheLeast() {
        SloshTank x = new SloshTank();
        x.tank(0, 2, 9, 0);
        x.carrier(0, 1);
        Checks.due("promise 22: all are like, at 0", x.worstFill(0, -1, 1), 0);
        x.lean(0);
        SloshTank y = new SloshTank();
        y.tank(0, 2, 2, 0);
        // 1 and 3 come to 1 on either side, 0, 2 and 4 to 0.
        Checks.due("promise 22: 1 and 3 are like", y.worstFill(0, -1, 1), 1);
        y.tank(0, 2, 99, 50);
        y.fill(1, 198);
        Checks.due("promise 22: of like ones with another tank", y.worstFill(0, -1, 1), 1);
        Checks.due("promise 22: the other one by its ROOM", y.worstFill(1, -1, 198), 198);
    }

    private static void atRestInItNow() {
        SloshTank x = new SloshTank();
        x.tank(2, 4, 9, 50);
        x.fill(0, 20);
        x.lean(50);
        x.run(3);
        x.lean(0);
        int worst = x.worstFill(0, -1, 36);
        Checks.due("promise 22: what is in it does not matter", worst, 36);
        Checks.due("promise 22: it is in it still", x.tankTold(0, 1), 20);
        Scenes.changesNothing("promise 22: worstFill", s -> s.worstFill(0, 1, 1));
        Scenes.changesNothing("promise 22: worstFill as now", s -> s.worstFill(1, -1, 1200));
    }

    private static void sixtyTicksOfFills() {
        SloshTank x = new SloshTank();
        x.tank(0, 2, 5, 50);
        Checks.wayOf(x, "l59x50;r1x50;");
        Checks.wayOf(x, "l59x50;s1;r1x50;");
        // A full tank pulls 500 to one side, the lean 1000 to either.
        Checks.due("promise 22: the 60th TICK counts", x.worstFill(0, 0, 1), 10);
        Checks.due("promise 22: the 61st does not", x.worstFill(0, 1, 1), 0);
    }

    private static void worstFillRefusals() {
        Scenes.refusedEach("promise 22: NONE ahead of BAD, tank", NONE, (x, v) -> x.worstFill(v, -1, 0), -1, 2, 5);
        Scenes.refusedEach("promise 22: far tank", NONE, (x, v) -> x.worstFill(v, -1, 1), Scenes.FAR);
        Scenes.refusedEach("promise 22: NONE ahead of BAD, way", NONE, (x, v) -> x.worstFill(0, v, 0), -2, 2, 6);
        Scenes.refusedEach("promise 22: far way", NONE, (x, v) -> x.worstFill(0, v, 1), Scenes.FAR);
        Scenes.refusedEach("promise 22: by", BAD, (x, v) -> x.worstFill(0, -1, v), -1, 0, 1201);
        Scenes.refusedEach("promise 22: far by", BAD, (x, v) -> x.worstFill(0, 1, v), Scenes.FAR);
    }

    /** The greatest pull with such a set of walls at the told borders; they stand as before then. */
    private static int worstWith(SloshTank x, int[] told, int y, int set) {
        int[] stood = new int[told.length];
        for (int i = 0; i < told.length; i++) {
            stood[i] = x.wall(0, told[i], set >> i & 1);
        }
        int worst = x.beside(y, 60, 0);
        for (int i = 0; i < told.length; i++) {
            x.wall(0, told[i], stood[i]);
        }
        return worst;
    }

    /** Kind, columns, high, fill; on its only way. */
    private static SloshTank one(int kind, int columns, int high, int fill, String way) {
        SloshTank x = new SloshTank();
        x.tank(kind, columns, high, 0);
        x.fill(0, fill);
        Checks.wayOf(x, way);
        return x;
    }

    private static void wallsDue(String what, SloshTank x, int most, int set, int... told) {
        Checks.rowOf(x, 0, 2, told);
        int worst = worstWith(x, told, 0, set);
        Checks.due("promise 23: " + what, x.walls(0, 0, 0, most), set);
        Checks.due("promise 24: WORST by these, " + what, x.wallsPull(), worst);
    }

    private static void noBordersToSix() {
        SloshTank x = one(1, 7, 14, 22, "r46x5;");
        wallsDue("no borders", x, 6, 0);
        wallsDue("no borders, none at most", x, 0, 0);
        wallsDue("all six", x, 6, 63, 0, 1, 2, 3, 4, 5);
        Checks.due("promise 24: by all six", x.wallsPull(), 94);
        SloshTank tub = one(5, 8, 17, 47, "r1x36;");
        wallsDue("all six of a tub", tub, 6, 63, 0, 1, 2, 3, 4, 5);
        Checks.due("promise 24: by all six of a tub", tub.wallsPull(), 737);
        SloshTank ends = one(1, 12, 9, 40, "r30x9;");
        Checks.rowOf(ends, 0, 1, 10, 0);
        Checks.holds("promise 23: the first and the last border", ends.walls(0, 0, 0, 2) >= 0);
    }

    private static void soManyAtMost() {
        SloshTank x = one(1, 7, 14, 22, "r46x5;");
        int[] told = {0, 1, 2, 3, 4, 5};
        int last = Integer.MAX_VALUE;
        for (int most = 0; most <= 6; most++) {
            int found = 0;
            int least = Integer.MAX_VALUE;
            for (int many = 0; many <= most; many++) {
                for (int set = 0; set < 64; set++) {
                    int worst = Integer.bitCount(set) == many ? worstOfNew(told, set) : Integer.MAX_VALUE;
                    found = worst < least ? set : found;
                    least = Math.min(least, worst);
                }
            }
            wallsDue(most + " at most", x, most, found, told);
            Checks.due("promise 24: WORST by " + most + " at most", x.wallsPull(), least);
            Checks.holds("promise 23: with more it is no worse", least <= last);
            last = least;
        }
    }

    private static int worstOfNew(int[] told, int set) {
        return worstWith(one(1, 7, 14, 22, "r46x5;"), told, 0, set);
    }

    private static void ofLikeSets() {
        wallsDue("all are like", one(0, 6, 9, 0, "r9x9;"), 3, 0, 0, 1, 2);
        // By bits: 555, 546, 531, 531, 531 ..: of two sets of one the least as bits.
        wallsDue("2 and 4 are like", one(5, 6, 22, 44, "r27x20;"), 3, 2, 0, 1, 2);
        wallsDue("2 and 4 are like, one at most", one(5, 6, 22, 44, "r27x20;"), 1, 2, 0, 1, 2);
        // By bits: 628, 628, 626, 624, 624 ..: of 3 and 4 the one of fewer numbers.
        wallsDue("3 and 4 are like", one(3, 5, 19, 17, "r20x28;"), 3, 4, 0, 1, 2);
        wallsDue("3 and 4 are like in a tub", one(5, 6, 20, 89, "r47x35;"), 3, 4, 0, 1, 2);
        // The bits are those of the sheet's numbers, not of the borders.
        wallsDue("told the other way round", one(3, 5, 19, 17, "r20x28;"), 3, 1, 2, 1, 0);
        wallsDue("told behind another", one(3, 5, 19, 17, "r20x28;"), 1, 2, 0, 2, 1);
    }

    private static void toldOnesAndOthers() {
        SloshTank x = one(3, 5, 19, 17, "r20x28;");
        int none = worstWith(x, new int[] {2, 3}, 0, 0);
        int third = worstWith(x, new int[] {2}, 0, 1);
        Checks.holds("promise 23: a wall is seen", third < none);
        x.wall(0, 2, 1);
        Checks.rowOf(x, 0, 0, 2);
        Checks.due("promise 23: the told one has none by the empty set", x.walls(0, 0, 0, 0), 0);
        Checks.due("promise 24: without it", x.wallsPull(), none);
        Checks.rowOf(x, 0, 0, 0);
        Checks.due("promise 23: one that is not told stands", x.walls(0, 0, 0, 0), 0);
        Checks.due("promise 24: with it", x.wallsPull(), third);
        Checks.due("promise 23: it stands as before", x.wall(0, 2, 1), 1);
        for (int c : new int[] {0, 1, 3}) {
            Checks.due("promise 23: none stands at " + c, x.wall(0, c, 0), 0);
        }
        oneThatIsNotTold();
        Scenes.changesNothing("promise 23: walls once more", s -> s.walls(0, 0, -1, 2));
    }

    /** Each border in turn has a wall that no sheet tells: by sheets of none, of one, and of all the others. */
    private static void oneThatIsNotTold() {
        int[] due = {242, 226, 224, 242};
        for (int c = 0; c < 4; c++) {
            SloshTank x = one(3, 5, 19, 40, "r20x10;");
            Checks.due("promise 21: without a wall", x.beside(0, 60, 0), 272);
            x.wall(0, c, 1);
            wallOfNowDue(x, c);
            wallOfNowDue(x, c, (c + 1) % 4);
            wallOfNowDue(x, c, (c + 1) % 4, (c + 2) % 4, (c + 3) % 4);
            Checks.due("promise 24: with a wall at " + c, x.wallsPull(), due[c]);
        }
    }

    private static void wallOfNowDue(SloshTank x, int c, int... told) {
        int with = x.beside(0, 60, 0);
        Checks.rowOf(x, 0, 2, told);
        Checks.due("promise 23: none at most", x.walls(0, 0, 0, 0), 0);
        Checks.due("promise 24: with a wall at " + c + ", told are " + told.length, x.wallsPull(), with);
    }

    private static void sixtyTicksOfWalls() {
        SloshTank x = one(0, 2, 5, 10, "l59x1;r1x50;");
        Checks.wayOf(x, "l59x1;s1;r1x50;");
        x.sheet(0, 0, 0);
        x.walls(0, 0, 0, 0);
        Checks.due("promise 24: the 60th TICK counts", x.wallsPull(), 1000);
        x.walls(0, 0, 1, 0);
        Checks.due("promise 24: the 61st does not", x.wallsPull(), 20);
    }

    private static void wallsRefusals() {
        Scenes.refusedEach("promise 23: NONE ahead of all, tank", NONE, (x, v) -> x.walls(v, 3, -1, 7), -1, 2, 5);
        Scenes.refusedEach("promise 23: far tank", NONE, (x, v) -> x.walls(v, 0, -1, 1), Scenes.FAR);
        Scenes.refusedEach("promise 23: NONE ahead of BAD, sheet", NONE, (x, v) -> x.walls(0, v, -1, 7), -1, 4);
        Scenes.refusedEach("promise 23: far sheet", NONE, (x, v) -> x.walls(0, v, -1, 1), Scenes.FAR);
        Scenes.refusedEach("promise 23: NONE ahead of -11, way", NONE, (x, v) -> x.walls(0, 3, v, 7), -2, 2, 6);
        Scenes.refusedEach("promise 23: far way", NONE, (x, v) -> x.walls(0, 0, v, 1), Scenes.FAR);
        Scenes.refused("promise 23: -11 ahead of BAD", MISSING, x -> x.walls(0, 3, -1, 7));
        Scenes.refused("promise 23: -11", MISSING, x -> x.walls(0, 3, -1, 0));
        Scenes.refusedEach("promise 23: most", BAD, (x, v) -> x.walls(0, 0, -1, v), -1, 7);
        Scenes.refusedEach("promise 23: far most", BAD, (x, v) -> x.walls(0, 0, -1, v), Scenes.FAR);
        Scenes.refused("promise 23: the last column of two is no border", BAD, x -> x.walls(1, 0, -1, 1));
        Scenes.refusedWhenFull("promise 23: 40 numbers", BAD, x -> x.walls(0, 0, -1, 1));
        numbersThatAreNoBorders();
    }

    private static void numbersThatAreNoBorders() {
        SloshTank x = one(1, 4, 9, 10, "r9x9;");
        x.sheet(0, 2, 7);
        Checks.due("promise 23: 7 numbers", x.walls(0, 0, 0, 1), BAD);
        x.sheet(0, 2, 6);
        Checks.due("promise 23: 6 numbers", x.walls(0, 0, 0, 0), 0);
        for (int v : new int[] {-1, 3, 4, 32, 34, -30, Integer.MIN_VALUE, Integer.MAX_VALUE}) {
            Checks.rowOf(x, 0, 2, 0, 2, v);
            Checks.due("promise 23: the last number " + v, x.walls(0, 0, 0, 1), BAD);
            Checks.rowOf(x, 0, 2, v, 0, 2);
            Checks.due("promise 23: the first number " + v, x.walls(0, 0, 0, 0), BAD);
        }
        Checks.rowOf(x, 0, 0, 256 + 2);
        Checks.holds("promise 23: a byte of 258 is border 2", x.walls(0, 0, 0, 1) >= 0);
        Checks.rowOf(x, 0, 0, 255);
        Checks.due("promise 23: a byte of 255 is none", x.walls(0, 0, 0, 1), BAD);
    }

    private static void wallsFoundLast() {
        SloshTank x = one(0, 2, 9, 0, "r9x9;");
        Checks.due("promise 24: 0 at first", x.wallsPull(), 0);
        x.sheet(0, 0, 0);
        x.walls(0, 0, 0, 0);
        Checks.due("promise 24: found", x.wallsPull(), 180);
        x.walls(0, 0, 0, 7);
        x.walls(0, 1, 0, 0);
        x.beside(-1, 9, 0);
        x.worstFill(0, -1, 1);
        Checks.due("promise 24: it stays by refusals and other searches", x.wallsPull(), 180);
        x.walls(0, 0, -1, 0);
        Checks.due("promise 24: found last", x.wallsPull(), 0);
    }

    private static void noTankToFive() {
        SloshTank x = new SloshTank();
        Checks.due("promise 25: even without tanks", x.drawOrder(-1), 0);
        Checks.due("promise 25: no first one", x.drawOrder(0), NONE);
        for (int t = 0; t < 5; t++) {
            x.tank(0, 2, 9, 3 * t - 7);
            x.fill(t, 2);
            int seen = 0;
            for (int i = 0; i <= t; i++) {
                seen |= 1 << x.drawOrder(i);
            }
            Checks.due("promise 25: each one once", seen, (2 << t) - 1);
            Checks.due("promise 25: none behind the last", x.drawOrder(t + 1), NONE);
        }
    }

    private static void atFirstAndBehindEach() {
        SloshTank x = new SloshTank();
        x.tank(0, 2, 9, -10);
        x.fill(0, 4);
        Checks.due("promise 25: how far at first, either way", x.drawOrder(-1), 40);
        x.tank(0, 2, 9, 9);
        x.fill(1, 4);
        // -40 and 36: -4 at first, then 36 or -40.
        Checks.due("promise 25: behind the first one", x.drawOrder(-1), 36);
        Checks.due("promise 25: the first one", x.drawOrder(0), 0);
        x.fill(0, 3);
        // -30 and 36: -30 behind the other way round.
        Checks.due("promise 25: behind the first one", x.drawOrder(-1), 30);
        Checks.due("promise 25: the first one", x.drawOrder(0), 1);
        SloshTank far = new SloshTank();
        for (int t = 0; t < 5; t++) {
            far.tank(0, 12, 99, t < 3 ? 50 : -50);
            far.fill(t, 1188);
        }
        Checks.due("promise 25: full ones at the ends", far.drawOrder(-1), 59400);
    }

    private static void ofLikeOrdersTheFirst() {
        SloshTank x = new SloshTank();
        for (int t = 0; t < 5; t++) {
            x.tank(0, 2, 9, 5);
        }
        orderDue("empty ones", x, 0, 0, 1, 2, 3, 4);
        for (int t = 0; t < 5; t++) {
            x.fill(t, 1);
        }
        orderDue("like ones on one side", x, 25, 0, 1, 2, 3, 4);
        SloshTank y = new SloshTank();
        int[] places = {10, 10, -10, -10};
        for (int t = 0; t < 4; t++) {
            y.tank(0, 2, 9, places[t]);
            y.fill(t, 1);
        }
        // 10, 10, -10, -10: it goes no further than 10 if one of each side follows another.
        orderDue("by turns", y, 10, 0, 2, 1, 3);
        SloshTank z = new SloshTank();
        int[] last = {-18, 42, -50, 41, -35};
        for (int t = 0; t < 5; t++) {
            z.tank(0, 2, 1, last[t]);
            z.fill(t, 1);
        }
        // -20 at first, then 15, -26, 24, -18, 0: no other order stays below 27.
        orderDue("the very last order", z, 26, 4, 3, 2, 1, 0);
    }

    private static void orderDue(String what, SloshTank x, int far, int... order) {
        Checks.due("promise 25: how far, " + what, x.drawOrder(-1), far);
        for (int i = 0; i < order.length; i++) {
            Checks.due("promise 25: number " + i + ", " + what, x.drawOrder(i), order[i]);
        }
    }

    private static void drawOrderRefusals() {
        Scenes.refusedEach("promise 25: i", NONE, SloshTank::drawOrder, -2, 2, 5);
        Scenes.refusedEach("promise 25: far i", NONE, SloshTank::drawOrder, Scenes.FAR);
        Scenes.refusedWhenFull("promise 25: no sixth one", NONE, x -> x.drawOrder(5));
        Scenes.changesNothing("promise 25: drawOrder", x -> x.drawOrder(1));
    }
}

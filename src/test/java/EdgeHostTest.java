/** Promises 31 to 35 and the words that they lean on, at their edges. */
public final class EdgeHostTest {
    private static final int BAD = SloshTank.BAD, MISSING = -11, OUTSIDE = -12, UNLIKE = -13, NEGATIVE = -14;
    private static final int BYTES = 0, SHORTS = 1, INTS = 2;

    public static void main(String[] args) {
        sheetsOfAllSizes();
        allZero();
        missingAgain();
        sheetRefusals();
        firstAndLastCell();
        cellRefusals();
        narrowing();
        copiesOfAllSizes();
        toItsOwnPlace();
        copiesAsTheyWere();
        copyRefusals();
        copiesOutside();
        refusedCopiesLeaveAll();
        noneToTenTanks();
        tanksAtTheEnds();
        tanksLeftOut();
        whatStoodAhead();
        tanksRefusals();
        takenTanks();
        takenWaysAndRecords();
        takenRefusals();
        Checks.end("EdgeHostTest");
    }

    /** A sheet's numbers, four by four, by tanks that come of them: all numbers must be 2 .. 5. */
    private static void rowDue(String what, SloshTank x, int s, int sort, int... want) {
        for (int at = 0; at + 4 <= want.length; at += 4) {
            int t = x.count(1);
            Checks.due(what + ", a tank by 4 numbers from " + at, x.tanks(s, sort, at, 1), 1);
            x.fill(t, 1);
            int columns = x.taken(0, t, 0);
            Checks.due(what + ", number " + at, x.tankTold(t, 0), want[at]);
            Checks.due(what + ", number " + (at + 1), columns, want[at + 1]);
            Checks.due(what + ", number " + (at + 2), x.tankTold(t, 4) / Math.max(columns, 1), want[at + 2]);
            Checks.due(what + ", number " + (at + 3), x.pulls(0) + columns - 1, want[at + 3]);
            x.fill(t, 0);
        }
    }

    private static void sheetsOfAllSizes() {
        SloshTank x = new SloshTank();
        for (int n = 0; n <= 40; n++) {
            int s = n % 4;
            Checks.due("promise 31: a row of " + n, x.sheet(s, n % 3, n), 1);
            Checks.due("promise 32: its last place", x.cell(s, n - 1, 1), n == 0 ? OUTSIDE : 1);
            Checks.due("promise 32: none behind it", x.cell(s, n, 1), OUTSIDE);
        }
        for (int sort = BYTES; sort <= INTS; sort++) {
            x.sheet(0, sort, 3);
            for (int other = BYTES; other <= INTS; other++) {
                Checks.due("promise 31: of sort " + sort, x.tanks(0, other, 0, 0), other == sort ? 0 : UNLIKE);
            }
        }
    }

    private static void allZero() {
        SloshTank x = new SloshTank();
        Checks.rowOf(x, 0, INTS, 5, 5, 5, 5, 5);
        x.sheet(0, INTS, 5);
        x.cell(0, 1, 2);
        x.cell(0, 2, 1);
        Checks.due("promise 31: anew all 0", x.tanks(0, INTS, 0, 1), 1);
        Checks.due("promise 31: KIND 0", x.tankTold(0, 0), 0);
        x.fill(0, 1);
        Checks.due("promise 31: PLACE 0", x.pulls(0), -1);
        Checks.rowOf(x, 1, BYTES, 5, 5, 5, 5, 5, 5, 5, 5);
        x.sheet(1, BYTES, 4);
        x.sheet(1, BYTES, 8);
        Checks.due("promise 31: the later ones, too", x.tanks(1, BYTES, 4, 1), 0);
        x.sheet(2, INTS, 6);
        Checks.due("promise 31: six times border 0", x.walls(0, 2, -1, 0), 0);
    }

    private static void missingAgain() {
        SloshTank x = new SloshTank();
        for (int s = 0; s < 4; s++) {
            Checks.due("promise 31: missing at first", x.cell(s, 0, 0), MISSING);
            x.sheet(s, BYTES, 0);
            Checks.due("promise 31: one of none is not missing", x.cell(s, 0, 0), OUTSIDE);
            Checks.due("promise 31: another one is", x.cell((s + 1) % 4, 0, 0), MISSING);
            for (int n : new int[] {0, -1, 41, Integer.MIN_VALUE, Integer.MAX_VALUE}) {
                x.sheet(s, INTS, 3);
                Checks.due("promise 31: n " + n + " does not matter", x.sheet(s, -1, n), 1);
                Checks.due("promise 31: missing again", x.cell(s, 0, 0), MISSING);
            }
            Checks.due("promise 31: one that is missing already", x.sheet(s, -1, 0), 1);
        }
    }

    private static void sheetRefusals() {
        Scenes.refusedEach("promise 31: BAD SHEET ahead of -14", BAD, (x, v) -> x.sheet(v, 0, -1), -1, 4);
        Scenes.refusedEach("promise 31: BAD SHEET, missing", BAD, (x, v) -> x.sheet(v, -1, 0), -1, 4);
        Scenes.refusedEach("promise 31: far SHEET", BAD, (x, v) -> x.sheet(v, 0, 1), Scenes.FAR);
        Scenes.refusedEach("promise 31: BAD sort ahead of -14", BAD, (x, v) -> x.sheet(1, v, -1), -2, 3);
        Scenes.refusedEach("promise 31: far sort", BAD, (x, v) -> x.sheet(1, v, 1), Scenes.FAR);
        Scenes.refusedEach("promise 31: n above 40", BAD, (x, v) -> x.sheet(1, 1, v), 41, Integer.MAX_VALUE);
        Scenes.refusedEach("promise 31: n below 0", NEGATIVE, (x, v) -> x.sheet(1, 1, v), -1, Integer.MIN_VALUE);
        for (int n : new int[] {41, -1}) {
            SloshTank x = new SloshTank();
            Checks.rowOf(x, 0, SHORTS, 2, 3, 4, 5, 5, 4, 3, 2);
            Checks.holds("promise 31: refused", x.sheet(0, SHORTS, n) < 0);
            rowDue("promise 31: all is left", x, 0, SHORTS, 2, 3, 4, 5, 5, 4, 3, 2);
        }
    }

    private static void firstAndLastCell() {
        SloshTank x = new SloshTank();
        x.sheet(3, INTS, 40);
        for (int i = 0; i < 40; i++) {
            Checks.due("promise 32: number " + i, x.cell(3, i, 2 + i % 4), 1);
        }
        Checks.due("promise 34: the last four", x.tanks(3, INTS, 36, 1), 1);
        Checks.due("promise 34: the first four", x.tanks(3, INTS, 0, 1), 1);
        for (int t = 0; t < 2; t++) {
            Checks.due("promise 32: KIND", x.tankTold(t, 0), 2);
            Checks.due("promise 32: ROOM", x.tankTold(t, 4), 12);
        }
    }

    private static void cellRefusals() {
        Scenes.refusedEach("promise 32: BAD ahead of -12, SHEET", BAD, (x, v) -> x.cell(v, 99, 1), -1, 4);
        Scenes.refusedEach("promise 32: far SHEET", BAD, (x, v) -> x.cell(v, 0, 1), Scenes.FAR);
        Scenes.refusedEach("promise 32: -11 ahead of -12, place", MISSING, (x, v) -> x.cell(3, v, 1), -1, 0, 40);
        Scenes.refusedEach("promise 32: place", OUTSIDE, (x, v) -> x.cell(1, v, 1), -1, 5, 6, 40);
        Scenes.refusedEach("promise 32: far place", OUTSIDE, (x, v) -> x.cell(1, v, 1), Scenes.FAR);
        SloshTank x = new SloshTank();
        Checks.rowOf(x, 0, INTS, 2, 3, 4, 5);
        for (int i : new int[] {-1, 4, 5, Integer.MIN_VALUE, Integer.MAX_VALUE}) {
            Checks.due("promise 32: place " + i, x.cell(0, i, 3), OUTSIDE);
        }
        rowDue("promise 32: all is left", x, 0, INTS, 2, 3, 4, 5);
    }

    /** What a cell becomes, told by the place of a tank; 99: it is no place. */
    private static void placeDue(int sort, int v, int want) {
        SloshTank x = new SloshTank();
        Checks.rowOf(x, 0, sort, 0, 2, 2, v);
        String what = "promise 32: " + v + " of sort " + sort;
        Checks.due(what + " is a place", x.tanks(0, sort, 0, 1), want == 99 ? 0 : 1);
        x.fill(0, 1);
        Checks.due(what, want == 99 ? 99 : x.pulls(0) + 1, want);
    }

    private static void narrowing() {
        placeDue(BYTES, 50, 50);
        placeDue(BYTES, -50, -50);
        placeDue(BYTES, 256, 0);
        placeDue(BYTES, 255, -1);
        placeDue(BYTES, -256 + 9, 9);
        placeDue(BYTES, 0x12345600 + 206, -50);
        placeDue(BYTES, Integer.MIN_VALUE, 0);
        placeDue(BYTES, Integer.MAX_VALUE, -1);
        placeDue(BYTES, 128, 99);
        placeDue(BYTES, 127, 99);
        placeDue(SHORTS, 65536, 0);
        placeDue(SHORTS, 65535, -1);
        placeDue(SHORTS, -65536 + 9, 9);
        placeDue(SHORTS, 256, 99);
        placeDue(SHORTS, 255, 99);
        placeDue(SHORTS, 0x12340000 + 65536 - 50, -50);
        placeDue(SHORTS, Integer.MIN_VALUE, 0);
        placeDue(SHORTS, Integer.MAX_VALUE, -1);
        placeDue(INTS, 65536, 99);
        placeDue(INTS, 65535, 99);
        placeDue(INTS, Integer.MIN_VALUE, 99);
        placeDue(INTS, Integer.MAX_VALUE, 99);
        placeDue(INTS, -50, -50);
        // By 99 off 127 a level of 28 is, by 99 off -128 none.
        levelsNear("promise 32: a byte of 127", BYTES, 127, true);
        levelsNear("promise 32: a byte of 128", BYTES, 128, false);
        levelsNear("promise 32: a byte of 383", BYTES, 383, true);
        levelsNear("promise 32: a short of 128", SHORTS, 128, true);
        levelsNear("promise 32: a short of 32768 + 32896", SHORTS, 65664, true);
        levelsNear("promise 32: a short of 32896", SHORTS, 32896, false);
        levelsNear("promise 32: an int of 65664", INTS, 65664, false);
    }

    private static void levelsNear(String what, int sort, int v, boolean near) {
        SloshTank x = new SloshTank();
        x.tank(0, 2, 99, 0);
        Checks.rowOf(x, 0, sort, v);
        x.record(0, 0, -1, 0);
        Checks.due(what, x.fits(0, 1, 99, 0) > 0 ? 1 : 0, near ? 1 : 0);
    }

    private static void copiesOfAllSizes() {
        SloshTank x = new SloshTank();
        Checks.rowOf(x, 0, BYTES, 2, 3, 4, 5, 5, 4, 3, 2);
        Checks.rowOf(x, 1, BYTES, 3, 3, 3, 3, 3, 3, 3, 3);
        Checks.due("promise 33: none", x.copy(0, 0, 1, 0, 0), 0);
        Checks.due("promise 33: none, behind the last ones", x.copy(0, 8, 1, 8, 0), 0);
        rowDue("promise 33: nothing came", x, 1, BYTES, 3, 3, 3, 3, 3, 3, 3, 3);
        Checks.due("promise 33: the last one to the first place", x.copy(0, 7, 1, 0, 1), 1);
        Checks.due("promise 33: the first one to the last place", x.copy(0, 0, 1, 7, 1), 1);
        rowDue("promise 33: one each", x, 1, BYTES, 2, 3, 3, 3);
        Checks.due("promise 33: all", x.copy(0, 0, 1, 0, 8), 8);
        rowDue("promise 33: all came", x, 1, BYTES, 2, 3, 4, 5, 5, 4, 3, 2);
        SloshTank y = new SloshTank();
        y.sheet(2, SHORTS, 40);
        y.sheet(3, SHORTS, 40);
        y.cell(2, 39, 5);
        Checks.due("promise 33: 40", y.copy(2, 0, 3, 0, 40), 40);
        Checks.due("promise 33: 41", y.copy(2, 0, 3, 0, 41), OUTSIDE);
        y.sheet(0, SHORTS, 0);
        Checks.due("promise 33: none of none", y.copy(0, 0, 0, 0, 0), 0);
        Checks.due("promise 33: one of none", y.copy(0, 0, 3, 0, 1), OUTSIDE);
        Checks.due("promise 33: one to none", y.copy(3, 0, 0, 0, 1), OUTSIDE);
    }

    private static void toItsOwnPlace() {
        SloshTank x = new SloshTank();
        Checks.rowOf(x, 0, INTS, 2, 3, 4, 5, 5, 4, 3, 2);
        Checks.due("promise 33: one further", x.copy(0, 0, 0, 1, 7), 7);
        rowDue("promise 33: as they were", x, 0, INTS, 2, 2, 3, 4, 5, 5, 4, 3);
        Checks.due("promise 33: one back", x.copy(0, 1, 0, 0, 7), 7);
        rowDue("promise 33: as they were", x, 0, INTS, 2, 3, 4, 5, 5, 4, 3, 3);
        Checks.due("promise 33: where they are", x.copy(0, 0, 0, 0, 8), 8);
        rowDue("promise 33: the same", x, 0, INTS, 2, 3, 4, 5);
    }

    /** Numbers go over whole, also those that no tank is of. */
    private static void copiesAsTheyWere() {
        SloshTank x = new SloshTank();
        x.tank(0, 2, 9, 0);
        Checks.rowOf(x, 0, INTS, -1, 65536 + 7);
        x.sheet(1, INTS, 2);
        x.copy(0, 0, 1, 0, 2);
        x.record(0, 0, -1, 1);
        Checks.due("promise 33: 65543 is no 7", x.fits(0, 1, 0, 0), 0);
        x.cell(1, 1, -1);
        x.record(0, 0, -1, 1);
        x.bar(0, 1);
        Checks.due("promise 33: -1 and -1", x.fits(0, 1, 0, 0), 19);
    }

    private static void copyRefusals() {
        Scenes.refusedEach("promise 33: BAD ahead of all, SHEET", BAD, (x, v) -> x.copy(v, -1, 3, -1, -1), -1, 4);
        Scenes.refusedEach("promise 33: BAD ahead of all, other", BAD, (x, v) -> x.copy(3, -1, v, -1, -1), -1, 4);
        Scenes.refusedEach("promise 33: far SHEET", BAD, (x, v) -> x.copy(v, 0, 0, 0, 0), Scenes.FAR);
        Scenes.refusedEach("promise 33: far other", BAD, (x, v) -> x.copy(0, 0, v, 0, 0), Scenes.FAR);
        Scenes.refused("promise 33: -11 ahead of -12", MISSING, x -> x.copy(3, -1, 0, -1, -1));
        Scenes.refused("promise 33: -11 ahead of -12, other", MISSING, x -> x.copy(0, -1, 3, -1, -1));
        Scenes.refused("promise 33: -11, both, none", MISSING, x -> x.copy(3, 0, 3, 0, 0));
        Scenes.refused("promise 33: -13 ahead of -12", UNLIKE, x -> x.copy(0, -1, 1, -1, -1));
        Scenes.refused("promise 33: -13, none", UNLIKE, x -> x.copy(1, 0, 2, 0, 0));
        Scenes.refused("promise 33: -13, one", UNLIKE, x -> x.copy(2, 0, 0, 0, 1));
    }

    private static void copiesOutside() {
        Scenes.refusedEach("promise 33: from", OUTSIDE, (x, v) -> x.copy(1, v, 1, 0, 1), -1, 5, 6);
        Scenes.refusedEach("promise 33: from, none", OUTSIDE, (x, v) -> x.copy(1, v, 1, 0, 0), -1, 6);
        Scenes.refusedEach("promise 33: to", OUTSIDE, (x, v) -> x.copy(1, 0, 1, v, 1), -1, 5, 6);
        Scenes.refusedEach("promise 33: to, none", OUTSIDE, (x, v) -> x.copy(1, 0, 1, v, 0), -1, 6);
        Scenes.refusedEach("promise 33: n below 0, too", OUTSIDE, (x, v) -> x.copy(1, 0, 1, 0, v), -1, 6);
        Scenes.refusedEach("promise 33: n below 0, inside", OUTSIDE, (x, v) -> x.copy(1, 3, 1, 3, v), -1, -2, -3);
        Scenes.refusedEach("promise 33: one too many from", OUTSIDE, (x, v) -> x.copy(1, v, 1, 0, 6 - v), 1, 2, 5);
        Scenes.refusedEach("promise 33: one too many to", OUTSIDE, (x, v) -> x.copy(1, 0, 1, v, 6 - v), 1, 2, 5);
        Scenes.refusedEach("promise 33: far from, a sum that wraps", OUTSIDE, (x, v) -> x.copy(1, v, 1, 0, 5), Scenes.FAR);
        Scenes.refusedEach("promise 33: far to, a sum that wraps", OUTSIDE, (x, v) -> x.copy(1, 0, 1, v, 5), Scenes.FAR);
        Scenes.refusedEach("promise 33: far n, a sum that wraps", OUTSIDE, (x, v) -> x.copy(1, 4, 1, 3, v), Scenes.FAR);
        Scenes.refusedEach("promise 33: all far", OUTSIDE, (x, v) -> x.copy(1, v, 1, v, v), Scenes.FAR);
    }

    private static void refusedCopiesLeaveAll() {
        int[][] calls = {{0, 0, 9}, {1, 0, 8}, {0, 1, 8}, {0, 2, 7}, {-1, 0, 3}, {0, -1, 3}};
        for (int[] call : calls) {
            SloshTank x = new SloshTank();
            Checks.rowOf(x, 0, INTS, 2, 3, 4, 5, 5, 4, 3, 2);
            Checks.rowOf(x, 1, INTS, 3, 3, 3, 3, 3, 3, 3, 3);
            Checks.due("promise 33: refused", x.copy(0, call[0], 1, call[1], call[2]), OUTSIDE);
            rowDue("promise 33: nothing came", x, 1, INTS, 3, 3, 3, 3, 3, 3, 3, 3);
            rowDue("promise 33: nothing went", x, 0, INTS, 2, 3, 4, 5, 5, 4, 3, 2);
        }
    }

    private static SloshTank forty(int s, int sort) {
        SloshTank x = new SloshTank();
        x.sheet(s, sort, 40);
        for (int i = 0; i < 40; i++) {
            x.cell(s, i, 2 + i % 4);
        }
        return x;
    }

    private static void noneToTenTanks() {
        for (int n = 0; n <= 10; n++) {
            SloshTank x = forty(n % 4, n % 3);
            Checks.due("promise 34: " + n + " of them", x.tanks(n % 4, n % 3, 0, n), Math.min(n, 5));
            Checks.due("promise 34: as many came", x.count(1), Math.min(n, 5));
        }
        SloshTank x = forty(0, INTS);
        Checks.due("promise 34: n 11", x.tanks(0, INTS, 0, 11), BAD);
        Checks.due("promise 34: none of them came", x.count(1), 0);
        Checks.due("promise 34: ten, the last one outside", x.tanks(0, INTS, 1, 10), OUTSIDE);
        Checks.due("promise 34: all that there is room for came", x.count(1), 5);
    }

    private static void tanksAtTheEnds() {
        SloshTank x = new SloshTank();
        Checks.rowOf(x, 0, BYTES, 5, 2, 3, 4, 5, 2, 3, 4, 5);
        Checks.due("promise 34: the last four", x.tanks(0, BYTES, 5, 1), 1);
        Checks.due("promise 34: one further", x.tanks(0, BYTES, 6, 1), OUTSIDE);
        Checks.due("promise 34: behind the last one", x.tanks(0, BYTES, 9, 1), OUTSIDE);
        Checks.due("promise 34: ahead of the first one", x.tanks(0, BYTES, -1, 1), OUTSIDE);
        Checks.due("promise 34: four ahead", x.tanks(0, BYTES, -4, 2), OUTSIDE);
        Checks.due("promise 34: one came", x.count(1), 1);
        rowDue("promise 34: the first four", x, 0, BYTES, 5, 2, 3, 4, 5, 2, 3, 4);
        Checks.rowOf(x, 1, INTS, 0, 12, 99, -50, 5, 2, 1, 50);
        Checks.due("promise 34: as of tank()", x.tanks(1, INTS, 0, 2), 2);
        Checks.due("promise 34: the greatest", x.tankTold(3, 4), 1188);
        Checks.due("promise 34: the least", x.tankTold(4, 4), 2);
    }

    private static void tanksLeftOut() {
        int[][] bad = {
            {-1, 2, 1, 0}, {6, 2, 1, 0}, {0, 1, 1, 0}, {0, 13, 1, 0}, {0, 2, 0, 0}, {0, 2, 100, 0}, {0, 2, 1, -51}, {0, 2, 1, 51}
        };
        for (int[] row : bad) {
            SloshTank x = new SloshTank();
            Checks.rowOf(x, 0, BYTES, 2, 3, 4, 5, row[0], row[1], row[2], row[3], 3, 4, 5, 2);
            Checks.due("promise 34: a BAD one is left out", x.tanks(0, BYTES, 0, 3), 2);
            Checks.due("promise 34: two came", x.count(1), 2);
            Checks.due("promise 34: the one behind it", x.tankTold(1, 0), 3);
        }
        SloshTank full = forty(0, BYTES);
        full.tank(0, 2, 1, 0);
        full.tank(0, 2, 1, 0);
        full.tank(0, 2, 1, 0);
        Checks.due("promise 34: up to five", full.tanks(0, BYTES, 0, 10), 2);
        Checks.due("promise 34: none when FULL", full.tanks(0, BYTES, 0, 10), 0);
        Checks.due("promise 34: outside when FULL", full.tanks(0, BYTES, 37, 1), OUTSIDE);
        Checks.due("promise 34: five", full.count(1), 5);
    }

    private static void whatStoodAhead() {
        SloshTank x = new SloshTank();
        Checks.rowOf(x, 0, SHORTS, 2, 3, 4, 5, 9, 9, 9, 9, 3, 4, 5, 2, 4, 4, 4);
        Checks.due("promise 34: a number is missing", x.tanks(0, SHORTS, 0, 4), OUTSIDE);
        Checks.due("promise 34: what stood ahead came", x.count(1), 2);
        Checks.due("promise 34: the first one", x.tankTold(0, 4), 12);
        Checks.due("promise 34: the one behind a BAD one", x.tankTold(1, 4), 20);
        Checks.due("promise 34: nothing stood ahead", x.tanks(0, SHORTS, 12, 9), OUTSIDE);
        Checks.due("promise 34: nothing came", x.count(1), 2);
        x.sheet(1, SHORTS, 0);
        Checks.due("promise 34: by an empty one", x.tanks(1, SHORTS, 0, 1), OUTSIDE);
        Checks.due("promise 34: none by an empty one", x.tanks(1, SHORTS, 0, 0), 0);
    }

    private static void tanksRefusals() {
        Scenes.refusedEach("promise 34: BAD ahead of all, SHEET", BAD, (x, v) -> x.tanks(v, 0, -1, 1), -1, 4);
        Scenes.refusedEach("promise 34: far SHEET", BAD, (x, v) -> x.tanks(v, 0, 0, 1), Scenes.FAR);
        Scenes.refusedEach("promise 34: BAD sort ahead of -11", BAD, (x, v) -> x.tanks(3, v, 0, 1), -1, 3);
        Scenes.refusedEach("promise 34: far sort", BAD, (x, v) -> x.tanks(2, v, 0, 1), Scenes.FAR);
        Scenes.refusedEach("promise 34: BAD n ahead of -11", BAD, (x, v) -> x.tanks(3, 0, 0, v), -1, 11);
        Scenes.refusedEach("promise 34: far n", BAD, (x, v) -> x.tanks(2, 2, 0, v), Scenes.FAR);
        Scenes.refusedEach("promise 34: -11 ahead of -12, sort", MISSING, (x, v) -> x.tanks(3, v, -1, 1), 0, 1, 2);
        Scenes.refused("promise 34: -11, none", MISSING, x -> x.tanks(3, 0, 0, 0));
        Scenes.refusedEach("promise 34: -13 ahead of -12, sort", UNLIKE, (x, v) -> x.tanks(2, v, -1, 1), 0, 1);
        Scenes.refused("promise 34: -13, none", UNLIKE, x -> x.tanks(0, 1, 0, 0));
        Scenes.refusedEach("promise 34: from", OUTSIDE, (x, v) -> x.tanks(2, 2, v, 1), -1, -4, 1, 4);
        Scenes.refusedEach("promise 34: far from, a sum that wraps", OUTSIDE, (x, v) -> x.tanks(2, 2, v, 10), Scenes.FAR);
        Scenes.refusedEach("promise 34: from that a sum brings back", OUTSIDE, (x, v) -> x.tanks(2, 2, v, 10),
                -4, -8, -36, Integer.MAX_VALUE - 3);
    }

    private static void takenTanks() {
        // Of which kinds each kind is one.
        String[] is = {"0", "01", "02", "013", "024", "015"};
        for (int kind = 0; kind < 6; kind++) {
            SloshTank x = new SloshTank();
            x.tank(kind, 12, 9, 0);
            for (int as = 0; as < 8; as++) {
                int due = is[kind].indexOf('0' + as) >= 0 ? 12 : UNLIKE;
                Checks.due("promise 35: KIND " + kind + " taken for " + as, x.taken(0, 0, as), due);
            }
        }
        SloshTank x = Scenes.full();
        for (int t = 0; t < 5; t++) {
            Checks.due("promise 35: tank " + t, x.taken(0, t, t), 2);
        }
        Checks.due("promise 35: no sixth tank", x.taken(0, 5, 0), MISSING);
    }

    private static void takenWaysAndRecords() {
        SloshTank x = new SloshTank();
        Checks.due("promise 35: no way", x.taken(1, 0, 6), MISSING);
        x.way();
        Checks.wayOf(x, "(12:s1;)");
        Checks.due("promise 35: a way of no legs", x.taken(1, 0, 6), 0);
        Checks.due("promise 35: a way of twelve", x.taken(1, 1, 6), 12);
        for (int kind = 0; kind < 8; kind++) {
            Checks.due("promise 35: a way taken for " + kind, x.taken(1, 1, kind), kind == 6 ? 12 : UNLIKE);
        }
        x.tank(0, 2, 9, 0);
        Checks.due("promise 35: no record", x.taken(2, 0, 7), MISSING);
        x.sheet(0, INTS, 24);
        x.record(0, 0, -1, 0);
        for (int kind = 0; kind < 8; kind++) {
            Checks.due("promise 35: a record taken for " + kind, x.taken(2, 0, kind), kind == 7 ? 24 : UNLIKE);
        }
        SloshTank full = Scenes.full();
        Checks.due("promise 35: the last way", full.taken(1, 5, 6), 1);
        Checks.due("promise 35: no seventh", full.taken(1, 6, 6), MISSING);
        Checks.due("promise 35: the last record", full.taken(2, 7, 7), 24);
        Checks.due("promise 35: no ninth", full.taken(2, 8, 7), MISSING);
    }

    private static void takenRefusals() {
        Scenes.refusedEach("promise 35: BAD ahead of -11, what", BAD, (x, v) -> x.taken(v, 9, 0), -1, 3);
        Scenes.refusedEach("promise 35: far what", BAD, (x, v) -> x.taken(v, 0, 0), Scenes.FAR);
        Scenes.refusedEach("promise 35: BAD ahead of -11, kind", BAD, (x, v) -> x.taken(0, 9, v), -1, 8);
        Scenes.refusedEach("promise 35: far kind", BAD, (x, v) -> x.taken(0, 0, v), Scenes.FAR);
        for (int what = 0; what < 3; what++) {
            int of = what;
            Scenes.refusedEach("promise 35: -11 ahead of -13, what " + what, MISSING, (x, v) -> x.taken(of, v, 6 - of), -1, 2, 5, 8);
            Scenes.refusedEach("promise 35: far place of what " + what, MISSING, (x, v) -> x.taken(of, v, 0), Scenes.FAR);
        }
        Scenes.refused("promise 35: -13", UNLIKE, x -> x.taken(0, 0, 2));
        Scenes.changesNothing("promise 35: taken", x -> x.taken(0, 1, 5));
    }
}

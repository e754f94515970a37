/** Promises 26 to 28 and the words that they lean on, at their edges. */
public final class EdgeRecordTest {
    private static final int NONE = SloshTank.NONE, BAD = SloshTank.BAD, STATE = SloshTank.STATE, FULL = SloshTank.FULL;
    private static final int MISSING = -11;

    public static void main(String[] args) {
        oneToTwentyFourLevels();
        eightRecords();
        columnsAndWays();
        recordRefusals();
        asTheSheetWas();
        bars();
        barRefusals();
        behindEachTick();
        lastLevelIsRead();
        notRead();
        offByJustSoMuch();
        numbersThatNoLevelCanBe();
        noneToAll();
        fillsOfNow();
        otherTanksRecords();
        fitsRefusals();
        Checks.end("EdgeRecordTest");
    }

    private static void oneToTwentyFourLevels() {
        SloshTank x = new SloshTank();
        x.tank(0, 2, 9, 0);
        int[] sizes = {1, 24};
        for (int r = 0; r < 2; r++) {
            x.sheet(0, 2, sizes[r]);
            Checks.due("promise 26: " + sizes[r] + " LEVELS", x.record(0, 0, -1, 0), r);
            Checks.due("promise 35: its LEVELS", x.taken(2, r, 7), sizes[r]);
        }
        for (int size : new int[] {0, 25, 40}) {
            x.sheet(0, 2, size);
            Checks.due("promise 26: size " + size, x.record(0, 0, -1, 0), BAD);
        }
        Checks.due("promise 26: two came", x.count(9), 2);
    }

    private static void eightRecords() {
        SloshTank x = new SloshTank();
        x.tank(0, 2, 9, 0);
        x.sheet(0, 0, 1);
        for (int r = 0; r < 8; r++) {
            Checks.due("promise 26: records from 0 on", x.record(0, 0, -1, 0), r);
        }
        Checks.due("promise 26: no room for a ninth", x.record(0, 0, -1, 0), FULL);
        Checks.due("promise 26: eight", x.count(9), 8);
        x.sheet(0, 0, 25);
        Checks.due("promise 26: BAD size ahead of FULL", x.record(0, 0, -1, 0), BAD);
        Scenes.refusedWhenFull("promise 26: BAD size ahead of FULL", BAD, f -> f.record(0, 0, -1, 0));
        Scenes.refusedWhenFull("promise 26: BAD COLUMN ahead of FULL", BAD, f -> f.record(0, 2, -1, 0));
        Scenes.refusedWhenFull("promise 26: NONE ahead of FULL", NONE, f -> f.record(5, 0, -1, 0));
    }

    private static void columnsAndWays() {
        SloshTank x = new SloshTank();
        x.tank(0, 2, 9, 0);
        x.tank(0, 12, 9, 0);
        x.sheet(0, 0, 1);
        for (int y = 0; y < 6; y++) {
            Checks.wayOf(x, "s1;");
        }
        Checks.due("promise 26: the first column, as now", x.record(0, 0, -1, 0), 0);
        Checks.due("promise 26: the last column, the last way", x.record(1, 11, 5, 0), 1);
        Checks.due("promise 26: one behind the last column", x.record(1, 12, 5, 0), BAD);
        Checks.due("promise 26: the first way", x.record(1, 0, 0, 0), 2);
        Checks.due("promise 26: the last column of the other", x.record(0, 2, 0, 0), BAD);
        onAWayOrAsNow();
    }

    /** To the left all of up to 9 comes to the first column, 4 in a TICK. */
    private static void onAWayOrAsNow() {
        SloshTank x = new SloshTank();
        x.tank(0, 2, 9, 0);
        Checks.wayOf(x, "r9x1;");
        Checks.wayOf(x, "l9x50;");
        Checks.rowOf(x, 0, 0, -1, 9);
        for (int y = -1; y < 2; y++) {
            x.record(0, 0, y, 0);
            x.bar(y + 1, 1);
        }
        x.bar(0, 0);
        fitsDue("promise 28: as it goes on now", x, 0, 17, 18);
        x.bar(0, 1);
        x.bar(1, 0);
        fitsDue("promise 28: on way 0", x, 0, 17, 18);
        x.bar(1, 1);
        x.bar(2, 0);
        fitsDue("promise 28: on way 1", x, 0, 9, 18);
        x.bar(2, 1);
        x.bar(0, 0);
        x.go(1);
        fitsDue("promise 28: as it goes on then", x, 0, 9, 18);
    }

    private static void recordRefusals() {
        Scenes.refusedEach("promise 26: NONE ahead of all, tank", NONE, (x, v) -> x.record(v, 9, -1, 3), -1, 2, 5);
        Scenes.refusedEach("promise 26: far tank", NONE, (x, v) -> x.record(v, 0, -1, 0), Scenes.FAR);
        Scenes.refusedEach("promise 26: NONE ahead of BAD, way", NONE, (x, v) -> x.record(0, 9, v, 3), -2, 2, 6);
        Scenes.refusedEach("promise 26: far way", NONE, (x, v) -> x.record(0, 0, v, 0), Scenes.FAR);
        Scenes.refusedEach("promise 26: NONE ahead of BAD, sheet", NONE, (x, v) -> x.record(0, 9, -1, v), -1, 4);
        Scenes.refusedEach("promise 26: far sheet", NONE, (x, v) -> x.record(0, 0, -1, v), Scenes.FAR);
        Scenes.refusedEach("promise 26: BAD ahead of -11, COLUMN", BAD, (x, v) -> x.record(0, v, -1, 3), -1, 3);
        Scenes.refusedEach("promise 26: far COLUMN", BAD, (x, v) -> x.record(0, v, -1, 0), Scenes.FAR);
        Scenes.refused("promise 26: -11", MISSING, x -> x.record(0, 0, -1, 3));
    }

    /** A record keeps its numbers, whatever becomes of the sheet. */
    private static void asTheSheetWas() {
        SloshTank x = new SloshTank();
        x.tank(0, 2, 9, 0);
        Checks.rowOf(x, 0, 2, 3);
        x.record(0, 0, -1, 0);
        x.cell(0, 0, 4);
        fitsDue("promise 28: another number in the sheet", x, 0, 5, 6);
        x.sheet(0, -1, 0);
        fitsDue("promise 28: no sheet", x, 0, 5, 6);
    }

    /** Fills of a tank of 2 columns and at most 24 room that fit: from one to another. */
    private static void fitsDue(String what, SloshTank x, int off, int least, int greatest) {
        Checks.due(what + ", how many", x.fits(0, 1, off, 0), greatest - least + 1);
        Checks.due(what + ", the least", x.fits(0, 1, off, 1), least);
        Checks.due(what + ", the greatest", x.fits(0, 1, off, 2), greatest);
    }

    private static void noneFits(String what, SloshTank x, int off) {
        Checks.due(what + ", how many", x.fits(0, 1, off, 0), 0);
        Checks.due(what + ", no least", x.fits(0, 1, off, 1), STATE);
        Checks.due(what + ", no greatest", x.fits(0, 1, off, 2), STATE);
    }

    /** A tank of 2 columns, 9 high, and a record of its first column as it goes on now. */
    private static SloshTank recorded(int... numbers) {
        SloshTank x = new SloshTank();
        x.tank(0, 2, 9, 0);
        Checks.rowOf(x, 0, 2, numbers);
        x.record(0, 0, -1, 0);
        return x;
    }

    private static void bars() {
        SloshTank x = recorded(3);
        x.record(0, 0, -1, 0);
        Checks.due("promise 27: not BARRED at first", x.bar(0, 0), 0);
        Checks.due("promise 27: nor now", x.bar(0, 1), 0);
        Checks.due("promise 27: BARRED", x.bar(0, 1), 1);
        fitsDue("promise 28: the other one is not", x, 0, 5, 6);
        Checks.due("promise 27: the other one", x.bar(1, 1), 0);
        fitsDue("promise 28: all are BARRED", x, 0, 0, 18);
        Checks.due("promise 27: which was", x.bar(0, 0), 1);
        fitsDue("promise 28: one is not BARRED any more", x, 0, 5, 6);
    }

    private static void barRefusals() {
        Scenes.refusedEach("promise 27: NONE ahead of BAD, record", NONE, (x, v) -> x.bar(v, 2), -1, 2, 8);
        Scenes.refusedEach("promise 27: far record", NONE, (x, v) -> x.bar(v, 0), Scenes.FAR);
        Scenes.refusedEach("promise 27: is", BAD, (x, v) -> x.bar(0, v), -1, 2);
        Scenes.refusedEach("promise 27: far is", BAD, (x, v) -> x.bar(1, v), Scenes.FAR);
        Scenes.refusedWhenFull("promise 27: no ninth", NONE, x -> x.bar(8, 0));
    }

    private static void behindEachTick() {
        SloshTank x = new SloshTank();
        x.tank(0, 2, 12, 0);
        x.fill(0, 12);
        x.feed(0, 0);
        x.draw(0, 1);
        // At rest 6 of 12: behind the first TICK 5, then 4.
        Checks.rowOf(x, 0, 0, 5, 4);
        x.record(0, 0, -1, 0);
        fitsDue("promise 28: read behind each TICK", x, 0, 11, 12);
        Checks.rowOf(x, 0, 0, 6);
        x.record(0, 0, -1, 0);
        x.bar(0, 1);
        fitsDue("promise 28: the first one behind the first TICK", x, 0, 13, 14);
        Checks.due("promise 28: nothing is DRAWN", x.count(5), 0);
    }

    private static void lastLevelIsRead() {
        int[] row = new int[24];
        for (int k = 0; k < 24; k++) {
            row[k] = -1;
        }
        row[23] = 9;
        fitsDue("promise 28: the 24th LEVEL is read", recorded(row), 0, 17, 18);
        row[0] = 9;
        fitsDue("promise 28: the first LEVEL, too", recorded(row), 0, 17, 18);
        row[23] = 8;
        noneFits("promise 28: another last one", recorded(row), 0);
        row[0] = -1;
        SloshTank x = recorded(row);
        Checks.holds("promise 28: some come to 8", x.fits(0, 1, 0, 0) > 0);
        Checks.holds("promise 28: a full one does not", x.fits(0, 1, 0, 2) < 18);
    }

    private static void notRead() {
        fitsDue("promise 28: one that is not read", recorded(-1), 0, 0, 18);
        SloshTank bytes = new SloshTank();
        bytes.tank(0, 2, 9, 0);
        Checks.rowOf(bytes, 0, 0, 255);
        bytes.record(0, 0, -1, 0);
        fitsDue("promise 28: a byte of 255 is -1", bytes, 0, 0, 18);
        Checks.rowOf(bytes, 0, 1, 65535);
        bytes.record(0, 0, -1, 0);
        fitsDue("promise 28: a short of 65535 is -1", bytes, 0, 0, 18);
        Checks.rowOf(bytes, 0, 1, 255);
        bytes.record(0, 0, -1, 0);
        noneFits("promise 28: a short of 255 is no LEVEL", bytes, 99);
        noneFits("promise 28: -2 is read", recorded(-2), 0);
        fitsDue("promise 28: -2, off by 2", recorded(-2), 2, 0, 0);
    }

    private static void offByJustSoMuch() {
        // A level of 4 in the first column: of 7 and 8.
        fitsDue("promise 28: off by 0", recorded(4), 0, 7, 8);
        fitsDue("promise 28: off by 1", recorded(4), 1, 5, 10);
        fitsDue("promise 28: off by 4", recorded(4), 4, 0, 16);
        fitsDue("promise 28: off by 5", recorded(4), 5, 0, 18);
        fitsDue("promise 28: off by 9 of 0", recorded(0), 9, 0, 18);
        fitsDue("promise 28: off by 8 of 0", recorded(0), 8, 0, 16);
        fitsDue("promise 28: off by 8 of 9", recorded(9), 8, 1, 18);
        fitsDue("promise 28: off by 99 of 99", recorded(99), 99, 0, 18);
        fitsDue("promise 28: off by 90 of 99", recorded(99), 90, 17, 18);
        noneFits("promise 28: off by 89 of 99", recorded(99), 89);
        fitsDue("promise 28: off by 99 of 100", recorded(100), 99, 1, 18);
    }

    private static void numbersThatNoLevelCanBe() {
        int[] far = {10, -2, -128, 127, Short.MIN_VALUE, Integer.MIN_VALUE, Integer.MIN_VALUE + 1, Integer.MAX_VALUE};
        for (int v : far) {
            noneFits("promise 28: no LEVEL is " + v, recorded(v), 0);
        }
        int[] further = {109, -100, Short.MAX_VALUE, Integer.MIN_VALUE, Integer.MIN_VALUE + 9, Integer.MAX_VALUE - 9};
        for (int v : further) {
            noneFits("promise 28: none is off by 99 of " + v, recorded(v), 99);
        }
        fitsDue("promise 28: off by 99 of -99", recorded(-99), 99, 0, 0);
        fitsDue("promise 28: off by 99 of 108", recorded(108), 99, 17, 18);
    }

    private static void noneToAll() {
        fitsDue("promise 28: just the empty one", recorded(0), 0, 0, 0);
        fitsDue("promise 28: just the full ones", recorded(9), 0, 17, 18);
        SloshTank x = new SloshTank();
        x.tank(0, 12, 99, 0);
        Checks.due("promise 28: all fit without records", x.fits(0, 1, 0, 0), 24);
        Checks.due("promise 28: the least", x.fits(0, 1, 0, 1), 0);
        Checks.due("promise 28: the greatest", x.fits(0, 1, 0, 2), 1150);
        Checks.due("promise 28: by 1200 the empty one alone", x.fits(0, 1200, 99, 0), 1);
        Checks.due("promise 28: by 1200 the greatest", x.fits(0, 1200, 99, 2), 0);
        Checks.due("promise 28: by 1188 two", x.fits(0, 1188, 0, 0), 2);
    }

    private static void fillsOfNow() {
        SloshTank x = recorded(4, 4);
        x.fill(0, 18);
        fitsDue("promise 28: what is in it does not matter", x, 0, 7, 8);
        x.lean(50);
        x.run(2);
        x.lean(0);
        // FLOWS of now do not matter either.
        fitsDue("promise 28: AT REST in it", x, 0, 7, 8);
        Checks.due("promise 28: it is in it still", x.tankTold(0, 1), 18);
        Scenes.changesNothing("promise 28: fits", s -> s.fits(1, 1, 3, 0));
    }

    private static void otherTanksRecords() {
        SloshTank x = recorded(3);
        x.tank(0, 2, 9, 0);
        Checks.due("promise 28: of a tank without records", x.fits(1, 1, 0, 0), 19);
        x.record(1, 1, -1, 0);
        Checks.due("promise 28: of its last column", x.fits(1, 1, 0, 1), 6);
        Checks.due("promise 28: of its last column", x.fits(1, 1, 0, 2), 7);
        fitsDue("promise 28: of the other tank", x, 0, 5, 6);
        x.record(0, 1, -1, 0);
        fitsDue("promise 28: of both columns", x, 0, 6, 6);
    }

    private static void fitsRefusals() {
        Scenes.refusedEach("promise 28: NONE ahead of BAD, tank", NONE, (x, v) -> x.fits(v, 0, 100, 3), -1, 2, 5);
        Scenes.refusedEach("promise 28: far tank", NONE, (x, v) -> x.fits(v, 1, 0, 0), Scenes.FAR);
        Scenes.refusedEach("promise 28: by", BAD, (x, v) -> x.fits(0, v, 0, 0), -1, 0, 1201);
        Scenes.refusedEach("promise 28: far by", BAD, (x, v) -> x.fits(0, v, 0, 0), Scenes.FAR);
        Scenes.refusedEach("promise 28: off", BAD, (x, v) -> x.fits(0, 1, v, 0), -1, 100);
        Scenes.refusedEach("promise 28: far off", BAD, (x, v) -> x.fits(0, 1, v, 0), Scenes.FAR);
        Scenes.refusedEach("promise 28: what", BAD, (x, v) -> x.fits(0, 1, 0, v), -1, 3);
        Scenes.refusedEach("promise 28: far what", BAD, (x, v) -> x.fits(0, 1, 0, v), Scenes.FAR);
    }
}

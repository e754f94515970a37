/** Promises 31 to 35: sheets, their cells, copies, tanks by a sheet, what is taken for what. */
public final class HostTest {
    private static final int MISSING = -11;
    private static final int OUTSIDE = -12;
    private static final int UNLIKE = -13;

    public static void main(String[] args) {
        sheets();
        cells();
        sorts();
        copies();
        tanks();
        tanksThatAreLeftOut();
        taken();
        Checks.end("HostTest");
    }

    private static void sheets() {
        SloshTank x = new SloshTank();
        for (int s = 0; s < 4; s++) {
            Checks.due("missing at first", x.cell(s, 0, 0), MISSING);
        }
        Checks.due("sheet -1", x.sheet(-1, 0, -1), SloshTank.BAD);
        Checks.due("sheet 4", x.sheet(4, 0, 1), SloshTank.BAD);
        Checks.due("sort -2", x.sheet(0, -2, 1), SloshTank.BAD);
        Checks.due("sort 3", x.sheet(0, 3, -1), SloshTank.BAD);
        Checks.due("41", x.sheet(0, 0, 41), SloshTank.BAD);
        Checks.due("-1", x.sheet(0, 0, -1), -14);
        Checks.due("still missing", x.cell(0, 0, 0), MISSING);
        Checks.due("40", x.sheet(0, 0, 40), 1);
        Checks.due("its last place", x.cell(0, 39, 7), 1);
        Checks.due("0", x.sheet(1, 1, 0), 1);
        Checks.due("no place", x.cell(1, 0, 0), OUTSIDE);
        Checks.due("missing, n 99", x.sheet(0, -1, 99), 1);
        Checks.due("missing", x.cell(0, 0, 0), MISSING);
        Checks.due("missing, n -9", x.sheet(0, -1, -9), 1);
        Checks.rowOf(x, 2, 2, 1, 2, 3, 4);
        Checks.due("refused", x.sheet(2, 2, 41), SloshTank.BAD);
        Checks.due("refused", x.sheet(2, 2, -1), -14);
        Checks.due("it is still there", x.cell(2, 3, 4), 1);
        Checks.rowOf(x, 2, 2, 1, 2, 3, 4);
        allZero(x);
    }

    /** A sheet that is laid anew: of it only an empty tank's levels are a record. */
    private static void allZero(SloshTank x) {
        x.sheet(2, 2, 4);
        x.tank(0, 2, 9, 0);
        x.record(0, 0, -1, 2);
        Checks.due("one fill", x.fits(0, 1, 0, 0), 1);
        Checks.due("none at all", x.fits(0, 1, 0, 1), 0);
    }

    private static void cells() {
        SloshTank x = new SloshTank();
        Checks.due("sheet -1", x.cell(-1, 0, 0), SloshTank.BAD);
        Checks.due("sheet 4", x.cell(4, -1, 0), SloshTank.BAD);
        Checks.due("nothing there", x.cell(3, -1, 0), MISSING);
        x.sheet(3, 2, 3);
        Checks.due("place -1", x.cell(3, -1, 0), OUTSIDE);
        Checks.due("place 3", x.cell(3, 3, 0), OUTSIDE);
        Checks.due("place far", x.cell(3, Integer.MAX_VALUE, 0), OUTSIDE);
        Checks.due("place far below", x.cell(3, Integer.MIN_VALUE, 0), OUTSIDE);
        Checks.due("place 2", x.cell(3, 2, 0), 1);
    }

    /** A tank's place is told by what a cell has become. */
    private static void sorts() {
        placeDue(0, 256 + 7, 7);
        placeDue(0, 255 - 8, -9);
        placeDue(0, -20, -20);
        placeDue(1, 65536 * 3 + 8, 8);
        placeDue(1, 65535 - 29, -30);
        placeDue(1, 256 + 7, 99);
        placeDue(2, 65536 + 8, 99);
        placeDue(2, -50, -50);
    }

    private static void placeDue(int sort, int v, int want) {
        SloshTank x = new SloshTank();
        Checks.rowOf(x, 0, sort, 0, 2, 2, v);
        int came = x.tanks(0, sort, 0, 1);
        Checks.due("came", came, want == 99 ? 0 : 1);
        x.fill(0, 1);
        if (came == 1) {
            Checks.due("place by " + v + " of sort " + sort, x.pulls(0) + 1, want);
        }
    }

    private static void copies() {
        SloshTank x = new SloshTank();
        Checks.due("sheet -1", x.copy(-1, 0, 0, 0, 0), SloshTank.BAD);
        Checks.due("sheet 4", x.copy(0, 0, 4, 0, 0), SloshTank.BAD);
        Checks.due("nothing there", x.copy(0, 0, 0, 0, 0), MISSING);
        x.sheet(0, 0, 8);
        Checks.due("nothing there", x.copy(0, 0, 1, 0, -1), MISSING);
        Checks.due("nothing there", x.copy(1, 0, 0, 0, -1), MISSING);
        x.sheet(1, 1, 8);
        Checks.due("unlike", x.copy(0, 0, 1, 0, -1), UNLIKE);
        Checks.due("unlike", x.copy(1, 9, 0, 9, 9), UNLIKE);
        x.sheet(1, 0, 5);
        int[][] outside = {
            {-1, 0, 1}, {0, -1, 1}, {0, 0, -1}, {8, 0, 1}, {0, 5, 1}, {0, 0, 6}, {4, 0, 5}, {0, 1, 5}, {9, 0, 0}, {0, 6, 0},
            {Integer.MAX_VALUE, 0, 1}, {0, Integer.MAX_VALUE, 1}, {1, 1, Integer.MAX_VALUE}, {0, 0, Integer.MIN_VALUE}
        };
        for (int[] row : outside) {
            Checks.due("outside " + row[0] + ", " + row[1] + ", " + row[2], x.copy(0, row[0], 1, row[1], row[2]), OUTSIDE);
        }
        Checks.due("none", x.copy(0, 8, 1, 5, 0), 0);
        Checks.due("five", x.copy(0, 3, 1, 0, 5), 5);
        copiedAsTheyWere();
    }

    private static void copiedAsTheyWere() {
        int[] row = {1, 2, 3, 4, 5};
        SloshTank x = new SloshTank();
        Checks.rowOf(x, 0, 2, row);
        Checks.due("to its own place, behind", x.copy(0, 0, 0, 2, 3), 3);
        rowDue(x, 0, 1, 2, 1, 2, 3);
        x = new SloshTank();
        Checks.rowOf(x, 0, 2, row);
        Checks.due("to its own place, ahead", x.copy(0, 2, 0, 0, 3), 3);
        rowDue(x, 0, 3, 4, 5, 4, 5);
        x = new SloshTank();
        Checks.rowOf(x, 0, 2, row);
        Checks.rowOf(x, 1, 2, 6, 7, 8, 9, 10);
        Checks.due("refused", x.copy(0, 0, 1, 2, 4), OUTSIDE);
        rowDue(x, 1, 6, 7, 8, 9, 10);
        x = new SloshTank();
        Checks.rowOf(x, 0, 0, row);
        Checks.rowOf(x, 1, 0, 6, 7, 8, 9, 10);
        Checks.due("to another one", x.copy(0, 1, 1, 2, 3), 3);
        Checks.due("where they came from they stay", x.copy(0, 0, 2, 0, 0), MISSING);
        rowDue(x, 1, 6, 7, 2, 3, 4);
    }

    /** Five numbers, each told by the place of a tank that is made of it. */
    private static void rowDue(SloshTank x, int s, int... want) {
        int sort = x.tanks(s, 2, 0, 0) == UNLIKE ? 0 : 2;
        Checks.rowOf(x, 3, sort, 0, 2, 99, 0);
        for (int i = 0; i < want.length; i++) {
            Checks.due("one number", x.copy(s, i, 3, 3, 1), 1);
            Checks.due("a tank by it", x.tanks(3, sort, 0, 1), 1);
            x.fill(i, 1);
            Checks.due("number " + i, x.pulls(0) + 1, want[i]);
            x.fill(i, 0);
        }
    }

    private static void tanks() {
        SloshTank x = new SloshTank();
        Checks.due("sheet -1", x.tanks(-1, 9, 0, 99), SloshTank.BAD);
        Checks.due("sheet 4", x.tanks(4, 0, 0, 1), SloshTank.BAD);
        Checks.due("sort -1", x.tanks(0, -1, 0, 1), SloshTank.BAD);
        Checks.due("sort 3", x.tanks(0, 3, 0, 1), SloshTank.BAD);
        Checks.due("n -1", x.tanks(0, 0, 0, -1), SloshTank.BAD);
        Checks.due("n 11", x.tanks(0, 0, 0, 11), SloshTank.BAD);
        Checks.due("nothing there", x.tanks(0, 0, 0, 1), MISSING);
        Checks.rowOf(x, 0, 1, 9, 2, 3, 4, 5, 5, 6, 7, -8, 0);
        Checks.due("unlike", x.tanks(0, 0, -1, 1), UNLIKE);
        Checks.due("unlike", x.tanks(0, 2, -1, 1), UNLIKE);
        Checks.due("place -1", x.tanks(0, 1, -1, 1), OUTSIDE);
        Checks.due("place 7", x.tanks(0, 1, 7, 1), OUTSIDE);
        Checks.due("place far", x.tanks(0, 1, Integer.MAX_VALUE, 10), OUTSIDE);
        Checks.due("place far below", x.tanks(0, 1, Integer.MIN_VALUE, 10), OUTSIDE);
        Checks.due("none of them", x.tanks(0, 1, 0, 0), 0);
        Checks.due("nothing came", x.count(1), 0);
        Checks.due("two of them, and a third outside", x.tanks(0, 1, 1, 3), OUTSIDE);
        Checks.due("what stood ahead came", x.count(1), 2);
        int[][] want = {{2, 3, 4, 5}, {5, 6, 7, -8}};
        for (int t = 0; t < 2; t++) {
            Checks.due("kind", x.tankTold(t, 0), want[t][0]);
            Checks.due("columns", x.taken(0, t, 0), want[t][1]);
            Checks.due("room", x.tankTold(t, 4), want[t][1] * want[t][2]);
            x.fill(t, 1);
            Checks.due("place", x.pulls(0), want[t][3] - want[t][1] + 1);
            x.fill(t, 0);
        }
        Checks.due("the last four places", x.tanks(0, 1, 5, 1), 1);
    }

    private static void tanksThatAreLeftOut() {
        SloshTank x = new SloshTank();
        Checks.rowOf(x, 0, 2, 0, 2, 1, 0, 6, 2, 1, 0, 1, 3, 1, 0, 0, 1, 1, 0, 2, 4, 1, 0);
        Checks.due("bad ones are left out", x.tanks(0, 2, 0, 5), 3);
        Checks.due("the third one", x.taken(0, 2, 0), 4);
        Checks.due("those beyond five are left out", x.tanks(0, 2, 0, 5), 2);
        Checks.due("five", x.count(1), 5);
        Checks.due("none come", x.tanks(0, 2, 0, 5), 0);
        Checks.due("outside is outside", x.tanks(0, 2, 0, 6), OUTSIDE);
        SloshTank ten = new SloshTank();
        ten.sheet(1, 0, 40);
        for (int k = 0; k < 40; k++) {
            ten.cell(1, k, k % 4 == 0 ? 0 : 2);
        }
        Checks.due("ten of them: five", ten.tanks(1, 0, 0, 10), 5);
    }

    private static void taken() {
        SloshTank x = new SloshTank();
        for (int kind = 0; kind < 5; kind++) {
            x.tank(kind, 3 + kind, 9, 0);
        }
        SloshTank tub = new SloshTank();
        tub.tank(5, 8, 9, 0);
        String[] is = {"0", "01", "02", "013", "024", "015"};
        for (int kind = 0; kind < 6; kind++) {
            for (int as = 0; as < 6; as++) {
                int want = is[kind].indexOf('0' + as) >= 0 ? 3 + kind : UNLIKE;
                int got = kind == 5 ? tub.taken(0, 0, as) : x.taken(0, kind, as);
                Checks.due(kind + " taken for " + as, got, want);
            }
        }
        Checks.wayOf(x, "s1;s1;");
        Checks.wayOf(x, "s1;");
        Checks.rowOf(x, 0, 0, 1, 2, 3, 4);
        x.record(0, 0, -1, 0);
        for (int what = 0; what < 3; what++) {
            Checks.due("place -1", x.taken(what, -1, 0), MISSING);
            Checks.due("place 5", x.taken(what, 5, 0), MISSING);
        }
        Checks.due("nothing there", x.taken(1, 2, 6), MISSING);
        Checks.due("another way", x.taken(1, 1, 6), 1);
        Checks.due("nothing there", x.taken(2, 1, 7), MISSING);
        Checks.due("a way", x.taken(1, 0, 6), 2);
        Checks.due("a record", x.taken(2, 0, 7), 4);
        for (int kind = 0; kind < 8; kind++) {
            Checks.due("no way is " + kind, x.taken(1, 0, kind), kind == 6 ? 2 : UNLIKE);
            Checks.due("no record is " + kind, x.taken(2, 0, kind), kind == 7 ? 4 : UNLIKE);
        }
        Checks.due("a tank for a way", x.taken(0, 0, 6), UNLIKE);
        Checks.due("a tank for a record", x.taken(0, 0, 7), UNLIKE);
        Checks.due("what -1", x.taken(-1, 0, 0), SloshTank.BAD);
        Checks.due("what 3", x.taken(3, 0, 0), SloshTank.BAD);
        Checks.due("kind -1", x.taken(0, 9, -1), SloshTank.BAD);
        Checks.due("kind 8", x.taken(0, 9, 8), SloshTank.BAD);
    }
}

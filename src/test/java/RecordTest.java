/** Promises 26 to 28: records, barred ones, and the fills that let them be. */
public final class RecordTest {
    public static void main(String[] args) {
        records();
        bars();
        fitsRefusals();
        fits();
        fitsOff();
        fitsAreAsRun();
        Checks.end("RecordTest");
    }

    private static void records() {
        SloshTank x = new SloshTank();
        Checks.due("no tank", x.record(0, 9, 9, 9), SloshTank.NONE);
        x.tank(0, 3, 10, 0);
        Checks.due("no way", x.record(0, 9, 0, 0), SloshTank.NONE);
        Checks.due("way -2", x.record(0, 9, -2, 0), SloshTank.NONE);
        Checks.due("sheet 4", x.record(0, 9, -1, 4), SloshTank.NONE);
        Checks.due("sheet -1", x.record(0, 9, -1, -1), SloshTank.NONE);
        Checks.due("column 3, ahead of nothing there", x.record(0, 3, -1, 0), SloshTank.BAD);
        Checks.due("column -1", x.record(0, -1, -1, 0), SloshTank.BAD);
        Checks.due("nothing there", x.record(0, 2, -1, 0), -11);
        x.sheet(0, 0, 0);
        Checks.due("size 0", x.record(0, 2, -1, 0), SloshTank.BAD);
        x.sheet(0, 0, 25);
        Checks.due("size 25", x.record(0, 2, -1, 0), SloshTank.BAD);
        x.sheet(0, 0, 24);
        Checks.due("size 24", x.record(0, 2, -1, 0), 0);
        for (int r = 1; r < 8; r++) {
            x.sheet(0, 2, r);
            Checks.due("record", x.record(0, 0, -1, 0), r);
            Checks.due("its levels", x.taken(2, r, 7), r);
        }
        Checks.due("a ninth", x.record(0, 0, -1, 0), SloshTank.FULL);
        x.sheet(0, 0, 25);
        Checks.due("a bad ninth", x.record(0, 0, -1, 0), SloshTank.BAD);
        Checks.due("records", x.count(9), 8);
    }

    private static void bars() {
        SloshTank x = new SloshTank();
        Checks.due("no record", x.bar(0, 9), SloshTank.NONE);
        x.tank(0, 3, 10, 0);
        x.sheet(0, 0, 1);
        x.record(0, 0, -1, 0);
        Checks.due("record -1", x.bar(-1, 0), SloshTank.NONE);
        Checks.due("record 1", x.bar(1, 0), SloshTank.NONE);
        Checks.due("is -1", x.bar(0, -1), SloshTank.BAD);
        Checks.due("is 2", x.bar(0, 2), SloshTank.BAD);
        Checks.due("not at first", x.bar(0, 1), 0);
        Checks.due("barred", x.bar(0, 0), 1);
        Checks.due("not any more", x.bar(0, 0), 0);
    }

    private static void fitsRefusals() {
        SloshTank x = new SloshTank();
        Checks.due("no tank", x.fits(0, 0, 0, 9), SloshTank.NONE);
        x.tank(0, 3, 10, 0);
        Checks.due("by 0", x.fits(0, 0, 0, 0), SloshTank.BAD);
        Checks.due("by 1201", x.fits(0, 1201, 0, 0), SloshTank.BAD);
        Checks.due("off -1", x.fits(0, 1, -1, 0), SloshTank.BAD);
        Checks.due("off 100", x.fits(0, 1, 100, 0), SloshTank.BAD);
        Checks.due("what -1", x.fits(0, 1, 0, -1), SloshTank.BAD);
        Checks.due("what 3", x.fits(0, 1, 0, 3), SloshTank.BAD);
        Checks.due("no records: 0, 2 .. 30 fit", x.fits(0, 1, 0, 0), 16);
        Checks.due("the least", x.fits(0, 1, 99, 1), 0);
        Checks.due("the greatest", x.fits(0, 7, 0, 2), 28);
        Checks.due("by 1200", x.fits(0, 1200, 0, 0), 1);
    }

    private static void fits() {
        SloshTank x = new SloshTank();
        x.tank(0, 3, 8, 0);
        x.tank(0, 3, 8, 0);
        Checks.rowOf(x, 0, 0, 5, -1, 5);
        x.record(0, 1, -1, 0);
        Checks.rowOf(x, 0, 0, 7);
        // At rest 14, 15, 16 have 5 in the middle; of 17 it is 6.
        Checks.due("14, 15, 16", x.fits(0, 1, 0, 0), 3);
        Checks.due("least", x.fits(0, 1, 0, 1), 14);
        Checks.due("greatest", x.fits(0, 1, 0, 2), 16);
        Checks.due("another tank's fills all fit", x.fits(1, 1, 0, 0), 25);
        x.record(0, 0, -1, 0);
        Checks.due("both: none", x.fits(0, 1, 0, 0), 0);
        Checks.due("no least", x.fits(0, 1, 0, 1), SloshTank.STATE);
        Checks.due("no greatest", x.fits(0, 1, 0, 2), SloshTank.STATE);
        Checks.due("both, off by 1", x.fits(0, 1, 1, 0), 4);
        Checks.due("from 16 on", x.fits(0, 1, 1, 1), 16);
        Checks.due("to 19: 7, 6, 6", x.fits(0, 1, 1, 2), 19);
        x.bar(0, 1);
        Checks.due("19, 20, 21", x.fits(0, 1, 0, 1), 19);
        Checks.due("19, 20, 21", x.fits(0, 1, 0, 2), 21);
        x.bar(1, 1);
        Checks.due("all barred", x.fits(0, 1, 0, 0), 25);
        Checks.due("a fill of now does not matter", x.fill(0, 3), 0);
        x.bar(1, 0);
        Checks.due("19, 20, 21", x.fits(0, 1, 0, 0), 3);
        Checks.due("what is in it stays", x.tankTold(0, 1), 3);
    }

    private static void fitsOff() {
        SloshTank x = new SloshTank();
        x.tank(0, 2, 9, 0);
        int[] told = {Integer.MAX_VALUE, Integer.MIN_VALUE, 200, -100, -2};
        for (int v : told) {
            Checks.rowOf(x, 0, 2, v);
            x.record(0, 0, -1, 0);
        }
        for (int r = 0; r < 5; r++) {
            for (int other = 0; other < 5; other++) {
                x.bar(other, other == r ? 0 : 1);
            }
            // 99 off 200 is 101, 99 off -100 is -1: no level fits; all levels are within 99 of -2
            int want = r == 4 ? 19 : 0;
            Checks.due("record of " + told[r], x.fits(0, 1, 99, 0), want);
        }
        Checks.due("off by 2: the levels 0", x.fits(0, 1, 2, 0), 1);
    }

    /** Columns of two tanks on ways, tried again by running like objects: an object is asked 512 times at most. */
    private static void fitsAreAsRun() {
        int fitting = 0;
        for (int kind = 0; kind < 6; kind++) {
            for (int y = -1; y < 1; y++) {
                SloshTank x = swinging(kind);
                int[] seen = levelsByRunning(kind, y, 27);
                for (int k = 3; k < 12; k += 5) {
                    seen[k] = -1;
                }
                Checks.rowOf(x, 2, 1, seen);
                x.record(1, 3 + y, y, 2);
                String was = Checks.look(x);
                for (int off = 0; off < 4; off++) {
                    fitting += tryAgain(x, kind, off, y, seen);
                }
                Checks.holds("nothing changes", was.equals(Checks.look(x)));
            }
        }
        Checks.holds("some fit, not all", fitting > 12 && fitting < 12 * 4 * 19);
    }

    private static SloshTank swinging(int kind) {
        SloshTank x = new SloshTank();
        x.tank(0, 3, 9, 5);
        x.tank(kind, 5, 11, 0);
        x.fill(0, 20);
        x.fill(1, 31);
        x.feed(1, 1);
        x.draw(0, 1);
        x.wall(1, 2, 1);
        x.lean(8);
        Checks.wayOf(x, "l9x30;r9x20;");
        x.run(3);
        return x;
    }

    private static int[] levelsByRunning(int kind, int y, int all) {
        SloshTank x = swinging(kind);
        x.fill(1, all);
        if (y >= 0) {
            x.go(y);
        }
        int[] levels = new int[12];
        for (int k = 0; k < 12; k++) {
            x.run(1);
            levels[k] = x.level(1, 3 + y);
        }
        return levels;
    }

    private static int tryAgain(SloshTank x, int kind, int off, int y, int[] seen) {
        int many = 0;
        int least = SloshTank.STATE;
        int greatest = SloshTank.STATE;
        for (int all = 0; all <= 55; all += 3) {
            int[] levels = levelsByRunning(kind, y, all);
            boolean is = true;
            for (int k = 0; k < 12; k++) {
                is = is && (seen[k] == -1 || Math.abs(seen[k] - levels[k]) <= off);
            }
            if (is) {
                least = many == 0 ? all : least;
                greatest = all;
                many++;
            }
        }
        Checks.due("how many", x.fits(1, 1, off, 0), many);
        Checks.due("the least", x.fits(1, 2, off, 1), least);
        Checks.due("the greatest", x.fits(1, 3, off, 2), greatest);
        return many;
    }
}

/** Promises 10 to 13: the tape, ways, what is told of them, and going on them. */
public final class WayTest {
    public static void main(String[] args) {
        telling();
        grammar();
        faults();
        thirteenthLegs();
        full();
        told();
        going();
        legsWithoutTicks();
        Checks.end("WayTest");
    }

    private static void telling() {
        SloshTank x = new SloshTank();
        Checks.due("n 0", x.tell(0, 0), SloshTank.BAD);
        Checks.due("n 9", x.tell(0, 9), SloshTank.BAD);
        Checks.due("n -1", x.tell(0, -1), SloshTank.BAD);
        // the bytes above the lowest three don't matter
        Checks.due("s9;", x.tell(0x5555_5573_393BL, 3), 3);
        Checks.due("on the tape", x.count(8), 3);
        Checks.due("read", x.way(), 0);
        Checks.due("a leg", x.wayTold(0, 0, 1), 9);
        Checks.due("the tape is empty", x.count(8), 0);
        for (int k = 1; k <= 14; k++) {
            Checks.due("tell", x.tell(-1L, 8), 8 * k);
        }
        Checks.due("tell", x.tell(0, 7), 119);
        Checks.due("beyond 120", x.tell(0, 2), SloshTank.FULL);
        Checks.due("bad ahead of full", x.tell(0, 9), SloshTank.BAD);
        Checks.due("up to 120", x.tell(0, 1), 120);
        Checks.due("beyond 120", x.tell(0, 1), SloshTank.FULL);
        Checks.due("it still has 120", x.count(8), 120);
    }

    private static void grammar() {
        legsDue("");
        legsDue("s0;", 0, 0);
        legsDue("s5;", 5, 0);
        legsDue("s99;", 99, 0);
        legsDue("l05x7;r12x50;", 5, -7, 12, 50);
        legsDue("l1x51;r1x99;", 1, -50, 1, 50);
        legsDue("l1x0;", 1, 0);
        legsDue("(3:)");
        legsDue("(0:)(99:)");
        legsDue("(0:l1x1;)s2;", 2, 0);
        legsDue("(1:l1x1;)", 1, -1);
        legsDue("s4;(2:l1x1;r2x2;)s3;", 4, 0, 1, -1, 2, 2, 1, -1, 2, 2, 3, 0);
        legsDue("(02:s1;)(2:s2;)", 1, 0, 1, 0, 2, 0, 2, 0);
    }

    private static void legsDue(String text, int... want) {
        SloshTank x = new SloshTank();
        Checks.due("way " + text, Checks.wayOf(x, text), 0);
        Checks.due("legs of " + text, x.wayTold(0, 0, 0), want.length / 2);
        for (int leg = 0; leg < want.length / 2; leg++) {
            Checks.due("ticks in " + text, x.wayTold(0, leg, 1), want[2 * leg]);
            Checks.due("lean in " + text, x.wayTold(0, leg, 2), want[2 * leg + 1]);
        }
    }

    private static void faultDue(String text, int place) {
        SloshTank x = new SloshTank();
        Checks.due("way " + text, Checks.wayOf(x, text), -100 - place);
        Checks.due("no way came", x.count(7), 0);
        Checks.due("the tape is empty behind " + text, x.count(8), 0);
        Checks.due("the next way", Checks.wayOf(x, "s1;"), 0);
    }

    private static void faults() {
        faultDue("q", 0);
        faultDue(")", 0);
        faultDue("5", 0);
        faultDue("S1;", 0);
        faultDue("s", 1);
        faultDue("s;", 1);
        faultDue("s1", 2);
        faultDue("s1x1;", 2);
        faultDue("s123;", 3);
        faultDue("s1;s1;?", 6);
        faultDue("l5;", 2);
        faultDue("lx", 1);
        faultDue("r5x", 3);
        faultDue("r5x;", 3);
        faultDue("r5x5", 4);
        faultDue("r5x555;", 5);
        faultDue("(", 1);
        faultDue("(:)", 1);
        faultDue("(2)", 2);
        faultDue("(222:)", 3);
        faultDue("(2:", 3);
        faultDue("(2:s1", 5);
        faultDue("(2:s1;", 6);
        faultDue("(2:s1;x)", 6);
        faultDue("(2:(1:s1;))", 3);
        faultDue("(0:s1)", 5);
        faultDue("(0:(0:))", 3);
        faultDue("(2:s1;))", 7);
        faultDue("s1;" + (char) 0, 3);
        faultDue("s1;" + (char) 255, 3);
        faultDue("(9:s1;s2;s3", 11);
    }

    private static void thirteenthLegs() {
        String twelve = "s1;".repeat(12);
        SloshTank x = new SloshTank();
        Checks.due("twelve legs", Checks.wayOf(x, twelve), 0);
        Checks.due("twelve legs", x.wayTold(0, 0, 0), 12);
        Checks.due("twelve by (", Checks.wayOf(x, "(4:s1;l2x2;r3x3;)"), 1);
        Checks.due("twelve legs", x.wayTold(1, 11, 2), 3);
        Checks.due("none more by (", Checks.wayOf(x, twelve + "(9:)"), 2);
        Checks.due("none more by (0:", Checks.wayOf(x, twelve + "(0:l1x1;)"), 3);
        Checks.due("twelve legs", x.wayTold(3, 0, 0), 12);
        Checks.due("any number that isn't gone", Checks.wayOf(x, "(0:" + "s1;".repeat(20) + ")s7;"), 4);
        Checks.due("one leg", x.wayTold(4, 0, 0), 1);
        Checks.due("its ticks", x.wayTold(4, 0, 1), 7);

        faultDue(twelve + "s1;", 36);
        faultDue(twelve + "l1x1;", 36);
        faultDue(twelve + "(1:s1;)", 39);
        faultDue(twelve + "(0:s1;)s1;", 43);
        faultDue("(13:s1;)", 7);
        faultDue("(9:s1;s2;)", 9);
        faultDue("s1;(6:s1;s1;)", 12);
        faultDue("(2:" + "s1;".repeat(7) + ")", 24);
        faultDue("(2:" + "s1;".repeat(13) + ")", 39);
        faultDue("(1:" + twelve + ")s1;", 40);
    }

    private static void full() {
        SloshTank x = new SloshTank();
        for (int y = 0; y < 6; y++) {
            Checks.due("way", Checks.wayOf(x, "s" + y + ";"), y);
        }
        Checks.tellText(x, "??");
        Checks.due("full ahead of the fault", x.way(), SloshTank.FULL);
        Checks.due("the tape stays", x.count(8), 2);
        Checks.due("ways", x.count(7), 6);
    }

    private static void told() {
        SloshTank x = new SloshTank();
        Checks.due("no way", x.wayTold(0, 0, 0), -100);
        Checks.wayOf(x, "s3;l5x10;");
        Checks.due("way -1", x.wayTold(-1, 0, 0), -100);
        Checks.due("way 1", x.wayTold(1, 9, 9), -100);
        Checks.due("the leg does not matter", x.wayTold(0, -7, 0), 2);
        Checks.due("leg -1", x.wayTold(0, -1, 1), -101);
        Checks.due("leg 2", x.wayTold(0, 2, 1), -101);
        Checks.due("what -1", x.wayTold(0, 0, -1), -101);
        Checks.due("what 3", x.wayTold(0, 0, 3), -101);
        Checks.due("ticks", x.wayTold(0, 1, 1), 5);
        Checks.due("lean", x.wayTold(0, 1, 2), -10);
    }

    private static void going() {
        SloshTank x = new SloshTank();
        Checks.due("no way", x.go(0), SloshTank.NONE);
        Checks.wayOf(x, "l2x7;r1x9;");
        Checks.wayOf(x, "");
        x.lean(33);
        Checks.due("way -1", x.go(-1), SloshTank.NONE);
        Checks.due("way 2", x.go(2), SloshTank.NONE);
        Checks.due("go", x.go(0), 0);
        Checks.due("it is on one", x.go(1), SloshTank.STATE);
        Checks.due("none ahead of that", x.go(2), SloshTank.NONE);
        int[] leans = {-7, -7, 9, 0};
        Checks.due("the lean is as it was", x.pulls(1), 660);
        for (int k = 0; k < 4; k++) {
            Checks.due("still on it", x.go(0), SloshTank.STATE);
            x.run(1);
            Checks.due("lean behind tick " + k, x.pulls(1), 20 * leans[k]);
        }
        Checks.due("on no way any more", x.go(1), 1);
        x.lean(50);
        x.run(1);
        Checks.due("an empty way ends at once", x.pulls(1), 0);
        Checks.due("go again", x.go(0), 0);
        x.run(1);
        Checks.due("a lean on a way", x.lean(1), -7);
        x.run(1);
        Checks.due("the leg goes on by it", x.pulls(1), 20);
        x.run(1);
        Checks.due("until the next leg", x.pulls(1), 180);
    }

    private static void legsWithoutTicks() {
        SloshTank x = new SloshTank();
        Checks.wayOf(x, "l0x9;r0x8;l1x3;r0x4;");
        x.go(0);
        x.run(1);
        Checks.due("the first leg with a tick", x.pulls(1), -60);
        x.run(1);
        Checks.due("none is left", x.pulls(1), 0);
        Checks.due("on no way", x.go(0), 0);
    }
}

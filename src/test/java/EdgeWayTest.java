/** Promises 10 to 13 and the words that they lean on, at their edges. */
public final class EdgeWayTest {
    private static final int NONE = SloshTank.NONE, BAD = SloshTank.BAD, STATE = SloshTank.STATE, FULL = SloshTank.FULL;
    private static final int NO_WAY = -100, NO_LEG = -101;
    private static final String TWELVE = "s1;".repeat(12);
    /** 120 bytes: twelve legs and nine times none. */
    private static final String LONGEST = "l12x34;".repeat(12) + "(0:)".repeat(9);

    public static void main(String[] args) {
        bytesATime();
        highestFirst();
        tapeFromEmptyToFull();
        tellRefusals();
        noneToTwelveLegs();
        numbers();
        timesOver();
        firstBytes();
        withinALeg();
        withinARound();
        tooEarly();
        thirteenthLeg();
        thirteenthByARound();
        longestTape();
        tapeIsEmptyBehind();
        sixWays();
        whatAWayIs();
        wayToldRefusals();
        onWhichWays();
        goRefusals();
        Checks.end("EdgeWayTest");
    }

    private static void legsDue(String text, int... want) {
        SloshTank x = new SloshTank();
        Checks.due("promise 11: the tape " + text, Checks.wayOf(x, text), 0);
        Checks.due("promise 12: legs of " + text, x.wayTold(0, 0, 0), want.length / 2);
        for (int leg = 0; leg < want.length / 2; leg++) {
            Checks.due("promise 12: TICKS of leg " + leg + " of " + text, x.wayTold(0, leg, 1), want[2 * leg]);
            Checks.due("promise 12: LEAN of leg " + leg + " of " + text, x.wayTold(0, leg, 2), want[2 * leg + 1]);
        }
    }

    /** The FAULT is the same whatever comes behind its byte. */
    private static void faultDue(String text, int place) {
        faultOfTape(text, place);
        for (String behind : new String[] {";", "s1;", ")", "9"}) {
            if (place < text.length()) {
                faultOfTape(text + behind, place);
            }
        }
    }

    private static void faultOfTape(String text, int place) {
        SloshTank x = new SloshTank();
        Checks.due("promise 11: FAULT of " + text, Checks.wayOf(x, text), -100 - place);
        Checks.due("promise 11: THE TAPE is empty then", x.count(8), 0);
        Checks.due("promise 11: no way came", x.count(7), 0);
        Checks.due("promise 11: the next one is as new", Checks.wayOf(x, "s4;"), 0);
        Checks.due("promise 12: its one leg", x.wayTold(0, 0, 0), 1);
    }

    private static void bytesATime() {
        SloshTank x = new SloshTank();
        Checks.due("promise 10: 1 byte", x.tell('s', 1), 1);
        Checks.due("promise 10: 8 bytes", x.tell(0x393B_7339_3B73_393BL, 8), 9);
        Checks.due("promise 10: how many it has", x.count(8), 9);
        Checks.due("promise 11: three legs", x.way(), 0);
        Checks.due("promise 12: three legs", x.wayTold(0, 0, 0), 3);
        for (int n = 1; n <= 8; n++) {
            Checks.due("promise 10: " + n + " bytes", x.tell(-1L, n), n * (n + 1) / 2);
        }
    }

    private static void highestFirst() {
        // The same eight bytes: the n lowest of them count, the first of these being the FAULT or not.
        int[] due = {0, -100, -100, 1, -100, -100, 2, -100, -100};
        for (int n = 1; n <= 8; n++) {
            SloshTank x = new SloshTank();
            x.way();
            x.tell(0xFFFF_7337_3B73_383BL, n);
            Checks.due("promise 10: the " + n + " lowest", x.way() < 0 ? -100 : x.wayTold(1, 0, 0), due[n]);
        }
        SloshTank y = new SloshTank();
        y.tell(0x8073_313BL, 3);
        Checks.due("promise 10: what is above them does not matter", y.way(), 0);
        y.tell(Long.MIN_VALUE | 0x73_323BL, 3);
        Checks.due("promise 10: the sign above them neither", y.way(), 1);
        Checks.due("promise 12: TICKS", y.wayTold(1, 0, 1), 2);
        y.tell(Long.MIN_VALUE, 8);
        Checks.due("promise 11: the highest bit is in the first byte", y.way(), -100);
        y.tell(0x73L, 1);
        y.tell(0x33L, 1);
        y.tell(0x3BL, 1);
        Checks.due("promise 10: behind what it has", y.way(), 2);
        Checks.due("promise 12: TICKS", y.wayTold(2, 0, 1), 3);
    }

    private static void tapeFromEmptyToFull() {
        SloshTank x = new SloshTank();
        for (int k = 1; k <= 14; k++) {
            Checks.due("promise 10: how many it has", x.tell(0, 8), 8 * k);
        }
        Checks.due("promise 10: 119", x.tell(0, 7), 119);
        Checks.due("promise 10: 121 are too many", x.tell(0, 2), FULL);
        Checks.due("promise 10: 127 are too many", x.tell(0, 8), FULL);
        Checks.due("promise 10: none of them came", x.count(8), 119);
        Checks.due("promise 10: 120", x.tell(0, 1), 120);
        Checks.due("promise 10: no room for one", x.tell(0, 1), FULL);
        x.way();
        Checks.due("promise 10: from empty on again", x.tell(0, 8), 8);
    }

    private static void tellRefusals() {
        Scenes.refusedEach("promise 10: n", BAD, (x, v) -> x.tell(0x73_313BL, v), -1, 0, 9);
        Scenes.refusedEach("promise 10: far n", BAD, (x, v) -> x.tell(0x73_313BL, v), Scenes.FAR);
        Scenes.refusedWhenFull("promise 10: no room", FULL, x -> x.tell('s', 1));
        Scenes.refusedWhenFull("promise 10: no room for 8", FULL, x -> x.tell(0, 8));
        Scenes.refusedWhenFull("promise 10: BAD ahead of FULL", BAD, x -> x.tell(0, 0));
        Scenes.refusedWhenFull("promise 10: BAD ahead of FULL", BAD, x -> x.tell(0, 9));
    }

    private static void noneToTwelveLegs() {
        legsDue("");
        legsDue("s1;", 1, 0);
        int[] twelve = new int[24];
        StringBuilder text = new StringBuilder();
        for (int leg = 0; leg < 12; leg++) {
            twelve[2 * leg] = leg;
            twelve[2 * leg + 1] = -leg;
            text.append('l').append(leg).append('x').append(leg).append(';');
        }
        legsDue(text.toString(), twelve);
        SloshTank x = new SloshTank();
        Checks.wayOf(x, TWELVE);
        Checks.due("promise 12: the twelfth", x.wayTold(0, 11, 1), 1);
        Checks.due("promise 12: no thirteenth", x.wayTold(0, 12, 1), NO_LEG);
    }

    private static void numbers() {
        legsDue("s0;", 0, 0);
        legsDue("s00;", 0, 0);
        legsDue("s9;s09;s90;s99;", 9, 0, 9, 0, 90, 0, 99, 0);
        legsDue("l0x0;r0x0;", 0, 0, 0, 0);
        legsDue("l1x1;r1x1;", 1, -1, 1, 1);
        legsDue("l1x49;r1x49;", 1, -49, 1, 49);
        legsDue("l1x50;r1x50;", 1, -50, 1, 50);
        legsDue("l1x51;r1x51;", 1, -50, 1, 50);
        legsDue("l99x99;r99x99;", 99, -50, 99, 50);
        legsDue("r1x05;", 1, 5);
        faultDue("s000", 3);
        faultDue("s100", 3);
        faultDue("r100", 3);
        faultDue("r1x100", 5);
        faultDue("(100", 3);
        // The bytes on both sides of the digits.
        faultDue("s/", 1);
        faultDue("s:", 1);
        faultDue("s1/", 2);
        faultDue("s1:", 2);
        faultDue("s-1;", 1);
        faultDue("s 1;", 1);
    }

    private static void timesOver() {
        legsDue("(0:)");
        legsDue("(1:)(99:)(00:)");
        legsDue("(0:s7;)");
        legsDue("(0:s7;l1x2;)s3;", 3, 0);
        legsDue("(1:s7;l1x2;)", 7, 0, 1, -2);
        legsDue("(2:s7;l1x2;)", 7, 0, 1, -2, 7, 0, 1, -2);
        legsDue("s5;(02:s7;)s6;(1:r1x3;)", 5, 0, 7, 0, 7, 0, 6, 0, 1, 3);
        legsDue("(12:s1;)", 1, 0, 1, 0, 1, 0, 1, 0, 1, 0, 1, 0, 1, 0, 1, 0, 1, 0, 1, 0, 1, 0, 1, 0);
        legsDue("(1:" + TWELVE + ")", 1, 0, 1, 0, 1, 0, 1, 0, 1, 0, 1, 0, 1, 0, 1, 0, 1, 0, 1, 0, 1, 0, 1, 0);
    }

    /** At the start, behind a leg, behind a round and within one: which bytes may come. */
    private static void firstBytes() {
        String[] ahead = {"", "s1;", "l1x1;", "(2:)", "(2:s1;)"};
        for (String begun : ahead) {
            for (int b = 0; b < 256; b++) {
                if ("slr(".indexOf(b) < 0) {
                    faultDue(begun + (char) b, begun.length());
                }
            }
        }
        for (int b = 0; b < 256; b++) {
            if ("slr)".indexOf(b) < 0) {
                faultDue("(2:" + (char) b, 3);
                faultDue("(2:s1;" + (char) b, 6);
            }
        }
    }

    private static void withinALeg() {
        for (int b = 0; b < 256; b++) {
            boolean isDigit = b >= '0' && b <= '9';
            if (!isDigit) {
                faultDue("s" + (char) b, 1);
                faultDue("l" + (char) b, 1);
                faultDue("r1x" + (char) b, 3);
            }
            if (!isDigit && b != ';') {
                faultDue("s1" + (char) b, 2);
                faultDue("r1x1" + (char) b, 4);
            }
            if (b != ';') {
                faultDue("s12" + (char) b, 3);
                faultDue("r1x12" + (char) b, 5);
            }
            if (!isDigit && b != 'x') {
                faultDue("l1" + (char) b, 2);
            }
            if (b != 'x') {
                faultDue("l12" + (char) b, 3);
            }
        }
    }

    private static void withinARound() {
        for (int b = 0; b < 256; b++) {
            boolean isDigit = b >= '0' && b <= '9';
            if (!isDigit) {
                faultDue("(" + (char) b, 1);
            }
            if (!isDigit && b != ':') {
                faultDue("(1" + (char) b, 2);
            }
            if (b != ':') {
                faultDue("(12" + (char) b, 3);
            }
        }
        faultDue("(2:(", 3);
        faultDue("(0:(", 3);
        faultDue("(2:s1;(", 6);
        faultDue("s1;(1:l1x", 9);
        faultDue("(2:s1", 5);
        faultDue("(2:s1)", 5);
        faultDue("(2:))", 4);
    }

    private static void tooEarly() {
        String[] ways = {"s12;", "l12x34;", "(12:s1;)", "(0:s12;l12x34;)"};
        for (String whole : ways) {
            for (int length = 1; length < whole.length(); length++) {
                faultDue(whole.substring(0, length), length);
                faultDue("s1;" + whole.substring(0, length), length + 3);
            }
        }
    }

    private static void thirteenthLeg() {
        faultDue(TWELVE + "s", 36);
        faultDue(TWELVE + "l", 36);
        faultDue(TWELVE + "r1x1;", 36);
        faultDue(TWELVE + "(1:s", 39);
        faultDue("(1:" + TWELVE + "s", 39);
        faultDue("(3:" + TWELVE + "s", 39);
        faultDue("(12:s1;)s", 8);
        faultDue("(6:s1;s1;)r", 10);
        faultDue("s1;".repeat(11) + "(1:s1;l", 39);
        // What may still come behind twelve.
        legsDue(TWELVE + "(5:)", 1, 0, 1, 0, 1, 0, 1, 0, 1, 0, 1, 0, 1, 0, 1, 0, 1, 0, 1, 0, 1, 0, 1, 0);
        legsDue("(12:s1;)(0:s1;)", 1, 0, 1, 0, 1, 0, 1, 0, 1, 0, 1, 0, 1, 0, 1, 0, 1, 0, 1, 0, 1, 0, 1, 0);
    }

    private static void thirteenthByARound() {
        faultDue("(13:s1;)", 7);
        faultDue("(99:s1;)", 7);
        faultDue("(7:s1;s1;)", 9);
        faultDue("s1;(12:s1;)", 10);
        faultDue("s1;(6:s1;s1;)", 12);
        faultDue("s1;".repeat(11) + "(2:s1;)", 39);
        faultDue("(2:" + "s1;".repeat(7) + ")", 24);
        faultDue("(2:" + TWELVE + ")", 39);
        // As long as its ) has not come, another byte is a FAULT of its own.
        faultDue("(13:s1;q", 7);
        faultDue("(13:s1;", 7);
        faultDue("(13:s1;s1;", 10);
        // Six rounds of two are twelve, one leg ahead is one too many.
        legsDue("(6:s1;s1;)", 1, 0, 1, 0, 1, 0, 1, 0, 1, 0, 1, 0, 1, 0, 1, 0, 1, 0, 1, 0, 1, 0, 1, 0);
        legsDue("s1;(11:s1;)", 1, 0, 1, 0, 1, 0, 1, 0, 1, 0, 1, 0, 1, 0, 1, 0, 1, 0, 1, 0, 1, 0, 1, 0);
    }

    private static void longestTape() {
        SloshTank x = new SloshTank();
        Checks.due("promise 10: 120 bytes", Checks.tellText(x, LONGEST), 120);
        Checks.due("promise 11: a way of 120 bytes", x.way(), 0);
        Checks.due("promise 12: twelve legs", x.wayTold(0, 0, 0), 12);
        Checks.due("promise 11: a FAULT in the last byte", Checks.wayOf(x, LONGEST.substring(0, 119) + "q"), -219);
        Checks.due("promise 11: too early with 119", Checks.wayOf(x, LONGEST.substring(0, 119)), -219);
        Checks.due("promise 11: too early with 120", Checks.wayOf(x, LONGEST.substring(0, 116) + "(10:"), -220);
        Checks.due("promise 11: a FAULT in the first byte", Checks.wayOf(x, "q" + LONGEST.substring(1)), -100);
        Checks.due("promise 11: one way", x.count(7), 1);
    }

    private static void tapeIsEmptyBehind() {
        SloshTank x = new SloshTank();
        Checks.due("promise 11: a way", Checks.wayOf(x, "s1;"), 0);
        Checks.due("promise 11: THE TAPE is empty", x.count(8), 0);
        Checks.due("promise 11: a FAULT", Checks.wayOf(x, "s1"), -102);
        Checks.due("promise 11: THE TAPE is empty by a FAULT, too", x.count(8), 0);
        Checks.due("promise 11: the empty tape is a way without legs", x.way(), 1);
        Checks.due("promise 12: none", x.wayTold(1, 0, 0), 0);
        Checks.due("promise 12: no leg", x.wayTold(1, 0, 1), NO_LEG);
    }

    private static void sixWays() {
        SloshTank x = new SloshTank();
        for (int y = 0; y < 6; y++) {
            Checks.due("promise 11: ways from 0 on", Checks.wayOf(x, "s" + y + ";"), y);
        }
        Checks.due("promise 11: FULL with an empty tape", x.way(), FULL);
        Checks.tellText(x, "s9;q");
        Checks.due("promise 11: FULL ahead of the FAULT", x.way(), FULL);
        Checks.due("promise 11: then THE TAPE stays", x.count(8), 4);
        Checks.due("promise 11: six", x.count(7), 6);
        for (int y = 0; y < 6; y++) {
            Checks.due("promise 12: each its own", x.wayTold(y, 0, 1), y);
        }
        Scenes.refusedWhenFull("promise 11: a seventh", FULL, SloshTank::way);
    }

    private static void whatAWayIs() {
        SloshTank x = new SloshTank();
        Checks.wayOf(x, "s9;(2:l8x7;)");
        for (int leg : new int[] {Integer.MIN_VALUE, -1, 0, 2, 3, 12, Integer.MAX_VALUE}) {
            Checks.due("promise 12: leg " + leg + " does not matter", x.wayTold(0, leg, 0), 3);
        }
        Checks.due("promise 12: TICKS of the first leg", x.wayTold(0, 0, 1), 9);
        Checks.due("promise 12: LEAN of the last leg", x.wayTold(0, 2, 2), -7);
    }

    private static void wayToldRefusals() {
        Scenes.refusedEach("promise 12: no such WAY, ahead of leg, what", NO_WAY, (x, v) -> x.wayTold(v, 9, 9), -1, 2, 6);
        Scenes.refusedEach("promise 12: far WAY", NO_WAY, (x, v) -> x.wayTold(v, 0, 0), Scenes.FAR);
        Scenes.refusedEach("promise 12: leg", NO_LEG, (x, v) -> x.wayTold(0, v, 1), -1, 2, 12);
        Scenes.refusedEach("promise 12: leg of a LEAN", NO_LEG, (x, v) -> x.wayTold(0, v, 2), -1, 2, 12);
        Scenes.refusedEach("promise 12: far leg", NO_LEG, (x, v) -> x.wayTold(0, v, 2), Scenes.FAR);
        Scenes.refusedEach("promise 12: what", NO_LEG, (x, v) -> x.wayTold(0, 0, v), -1, 3);
        Scenes.refusedEach("promise 12: far what", NO_LEG, (x, v) -> x.wayTold(0, 0, v), Scenes.FAR);
        Scenes.refusedWhenFull("promise 12: no seventh WAY", NO_WAY, x -> x.wayTold(6, 0, 0));
        Scenes.changesNothing("promise 12: a look", x -> x.wayTold(0, 1, 1));
    }

    private static void onWhichWays() {
        SloshTank x = new SloshTank();
        for (int y = 0; y < 6; y++) {
            Checks.wayOf(x, "r1x" + y + ";");
        }
        for (int y = 0; y < 6; y++) {
            Checks.due("promise 13: its number", x.go(y), y);
            x.run(1);
            Checks.due("promise 13: at its start", x.pulls(1), 20 * y);
            Checks.due("promise 13: STATE until it has ended", x.go(y), STATE);
            x.run(1);
        }
    }

    private static void goRefusals() {
        Scenes.refusedEach("promise 13: NONE ahead of STATE, way", NONE, SloshTank::go, -1, 2, 6);
        Scenes.refusedEach("promise 13: far way", NONE, SloshTank::go, Scenes.FAR);
        Scenes.refusedEach("promise 13: it is on one, way", STATE, SloshTank::go, 0, 1);
        Scenes.refusedWhenFull("promise 13: no seventh way", NONE, x -> x.go(6));
    }
}

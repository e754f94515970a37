/** Promises 1 to 9: a new object, tanks, walls, fills, mouths, lean, carrier, ticks. */
public final class TankTest {
    private static final String[] REFUSED = {"kind", "columns", "high", "place"};

    public static void main(String[] args) {
        newObject();
        tanks();
        walls();
        fills();
        feeds();
        draws();
        leans();
        carrier();
        runs();
        kindsOfFlow();
        levelsAndLids();
        justAHundredth();
        drawing();
        tipping();
        Checks.end("TankTest");
    }

    private static void newObject() {
        SloshTank x = new SloshTank();
        for (int what = 0; what <= 9; what++) {
            Checks.due("count(" + what + ") of a new object", x.count(what), 0);
        }
        Checks.due("level of no tank", x.level(0, 0), SloshTank.NONE);
        Checks.due("moment of nothing", x.pulls(0), 0);
        Checks.due("pull of nothing", x.pulls(1), 0);
        Checks.due("wallsPull at first", x.wallsPull(), 0);
        Checks.due("no image at first", x.back(), SloshTank.STATE);
        Checks.due("NO", SloshTank.NO, -4611686018427387904L);
        Checks.due("constants", SloshTank.NONE + 10 * SloshTank.BAD + 100 * SloshTank.STATE + 1000 * SloshTank.FULL, -4321);
    }

    private static void tanks() {
        SloshTank x = new SloshTank();
        int[][] bad = {{-1, 6}, {1, 13}, {0, 100}, {-51, 51}};
        for (int which = 0; which < 4; which++) {
            for (int v : bad[which]) {
                int[] told = {0, 2, 1, 0};
                told[which] = v;
                Checks.due("tank with bad " + REFUSED[which], x.tank(told[0], told[1], told[2], told[3]), SloshTank.BAD);
            }
        }
        Checks.due("no refused tank came", x.count(1), 0);
        Checks.due("least tank", x.tank(0, 2, 1, -50), 0);
        Checks.due("greatest tank", x.tank(5, 12, 99, 50), 1);
        Checks.due("kind kept", x.tankTold(1, 0), 5);
        Checks.due("room", x.tankTold(0, 4), 2);
        Checks.due("room", x.tankTold(1, 4), 1188);
        for (int t = 2; t < 5; t++) {
            Checks.due("tank " + t, x.tank(t - 1, 3, 3, 0), t);
        }
        Checks.due("a sixth tank", x.tank(0, 2, 1, 0), SloshTank.FULL);
        Checks.due("a bad sixth tank", x.tank(0, 1, 1, 0), SloshTank.BAD);
        Checks.due("tanks", x.count(1), 5);
        for (int c = 0; c < 12; c++) {
            Checks.due("level at first", x.level(1, c), 0);
            Checks.due("flow at first", x.flow(1, c), c == 11 ? -1000001 : 0);
        }
    }

    private static void walls() {
        SloshTank x = new SloshTank();
        Checks.due("wall of no tank", x.wall(0, 0, 1), SloshTank.NONE);
        x.tank(1, 4, 10, 0);
        Checks.due("tank -1", x.wall(-1, 9, 9), SloshTank.NONE);
        Checks.due("tank 1", x.wall(1, 9, 9), SloshTank.NONE);
        Checks.due("column -1", x.wall(0, -1, 1), SloshTank.BAD);
        Checks.due("the last column", x.wall(0, 3, 1), SloshTank.BAD);
        Checks.due("is -1", x.wall(0, 0, -1), SloshTank.BAD);
        Checks.due("is 2", x.wall(0, 0, 2), SloshTank.BAD);
        Checks.due("none at first", x.wall(0, 2, 1), 0);
        Checks.due("which was", x.wall(0, 2, 1), 1);
        Checks.due("another border has none", x.wall(0, 0, 0), 0);
        Checks.due("taken away", x.wall(0, 2, 0), 1);
        Checks.due("none again", x.wall(0, 2, 0), 0);
    }

    private static void fills() {
        SloshTank x = new SloshTank();
        Checks.due("fill of no tank", x.fill(0, -1), SloshTank.NONE);
        x.tank(0, 4, 10, 0);
        Checks.due("below 0", x.fill(0, -1), SloshTank.BAD);
        Checks.due("above the room", x.fill(0, 41), SloshTank.BAD);
        Checks.due("a fill", x.fill(0, 23), 0);
        Checks.levelsDue(x, 0, 6, 6, 6, 5);
        Checks.due("the room itself", x.fill(0, 40), 23);
        Checks.levelsDue(x, 0, 10, 10, 10, 10);
        Checks.due("less", x.fill(0, 5), 40);
        Checks.levelsDue(x, 0, 2, 1, 1, 1);
        Checks.due("what was put in", x.tankTold(0, 2), 5);
        x.lean(50);
        x.run(1);
        Checks.holds("it swings", x.flow(0, 0) != 0);
        Checks.due("again the same", x.fill(0, 5), 5);
        Checks.flowsDue(x, 0, 0, 0, 0);
        Checks.levelsDue(x, 0, 2, 1, 1, 1);
        Checks.due("emptied", x.fill(0, 0), 5);
        Checks.due("nothing put in", x.tankTold(0, 2), 0);
        Checks.due("nothing in it", x.tankTold(0, 1), 0);
    }

    private static void feeds() {
        SloshTank x = new SloshTank();
        Checks.due("mouth of no tank", x.feed(0, -1), SloshTank.NONE);
        x.tank(0, 3, 10, 0);
        Checks.due("tank -1", x.feed(-1, 0), SloshTank.NONE);
        Checks.due("column -1", x.feed(0, -1), SloshTank.BAD);
        Checks.due("column 3", x.feed(0, 3), SloshTank.BAD);
        for (int f = 0; f < 6; f++) {
            Checks.due("mouth", x.feed(0, f % 3), f);
            Checks.due("draws nothing at first", x.feedTold(f, 2), 0);
        }
        Checks.due("a seventh", x.feed(0, 0), SloshTank.FULL);
        Checks.due("a bad seventh", x.feed(0, 3), SloshTank.BAD);
        Checks.due("mouths", x.count(2), 6);
    }

    private static void draws() {
        SloshTank x = new SloshTank();
        Checks.due("no mouth", x.draw(0, -1), SloshTank.NONE);
        x.tank(0, 2, 10, 0);
        x.feed(0, 1);
        Checks.due("mouth -1", x.draw(-1, 1), SloshTank.NONE);
        Checks.due("-1", x.draw(0, -1), SloshTank.BAD);
        Checks.due("51", x.draw(0, 51), SloshTank.BAD);
        Checks.due("50", x.draw(0, 50), 0);
        Checks.due("0", x.draw(0, 0), 50);
    }

    private static void leans() {
        SloshTank x = new SloshTank();
        Checks.due("-51", x.lean(-51), -100);
        Checks.due("51", x.lean(51), -100);
        Checks.due("-50", x.lean(-50), 0);
        Checks.due("50", x.lean(50), -50);
        Checks.due("pull by lean", x.pulls(1), 1000);
        Checks.due("0", x.lean(0), 50);
    }

    private static void carrier() {
        SloshTank x = new SloshTank();
        Checks.due("what -1", x.carrier(-1, 1), SloshTank.BAD);
        Checks.due("what 2", x.carrier(2, 1), SloshTank.BAD);
        Checks.due("heavy 0", x.carrier(0, 0), SloshTank.BAD);
        Checks.due("heavy 51", x.carrier(0, 51), SloshTank.BAD);
        Checks.due("grip -1", x.carrier(1, -1), SloshTank.BAD);
        Checks.due("grip 100001", x.carrier(1, 100001), SloshTank.BAD);
        Checks.due("heavy 1", x.carrier(0, 1), 10);
        Checks.due("heavy 50", x.carrier(0, 50), 1);
        Checks.due("heavy kept", x.carrier(0, 7), 50);
        Checks.due("grip 0", x.carrier(1, 0), 2000);
        Checks.due("grip 100000", x.carrier(1, 100000), 0);
        Checks.due("grip kept", x.carrier(1, 5), 100000);
        x.tank(0, 2, 99, 3);
        x.fill(0, 3);
        // 2 * (3 - 1) + 1 * (3 + 1) = 8; 8 * 7 / 10 = 5
        Checks.due("moment", x.pulls(0), 8);
        Checks.due("pull by heavy, cut", x.pulls(1), 5);
    }

    private static void runs() {
        SloshTank x = new SloshTank();
        Checks.due("0 ticks", x.run(0), SloshTank.BAD);
        Checks.due("201 ticks", x.run(201), SloshTank.BAD);
        Checks.due("-1 ticks", x.run(-1), SloshTank.BAD);
        for (int k = 1; k <= 99; k++) {
            Checks.due("run", x.run(200), 200 * k);
        }
        Checks.due("run", x.run(199), 19999);
        Checks.due("beyond 20000", x.run(2), SloshTank.FULL);
        Checks.due("nothing ran", x.count(0), 19999);
        Checks.due("bad ahead of full", x.run(201), SloshTank.BAD);
        Checks.due("up to 20000", x.run(1), 20000);
        Checks.due("beyond 20000", x.run(1), SloshTank.FULL);
        Checks.due("beside goes beyond 20000", x.beside(-1, 200, 1), 0);
    }

    /** Levels 11 and 10: by hand, one flow a kind, without and with a wall, for a lean either way. */
    private static void kindsOfFlow() {
        int[][] open = {{315, -279}, {298, -264}, {90, -70}, {228, -202}, {18, -14}, {578, -544}};
        int[][] walled = {{315, -279}, {74, -66}, {90, -70}, {114, -101}, {18, -14}, {144, -136}};
        for (int kind = 0; kind < 6; kind++) {
            for (int way = 0; way < 2; way++) {
                SloshTank x = new SloshTank();
                x.tank(kind, 2, 99, 0);
                x.tank(kind, 2, 99, 0);
                x.fill(0, 21);
                x.fill(1, 21);
                x.wall(1, 0, 1);
                x.lean(way == 0 ? 33 : -33);
                x.run(1);
                String what = "kind " + kind + ", lean way " + way;
                Checks.due(what + ", open", x.flow(0, 0), open[kind][way]);
                Checks.due(what + ", walled", x.flow(1, 0), walled[kind][way]);
                int gone = open[kind][way] / 100;
                Checks.levelsDue(x, 0, 11 - gone, 10 + gone);
            }
        }
    }

    private static void levelsAndLids() {
        SloshTank x = new SloshTank();
        x.tank(0, 3, 4, 0);
        x.fill(0, 10);
        Checks.levelsDue(x, 0, 4, 3, 3);
        x.lean(50);
        x.run(1);
        // 20 + 500 = 520 - 52 = 468: 4 of 4 to a column with room for 1: a hit; then the levels are 3, 4, 3:
        // 520 - 52 = 468: 4 of 4 to one with room for 1: a hit
        Checks.levelsDue(x, 0, 3, 3, 4);
        Checks.flowsDue(x, 0, 0, 0);
        Checks.due("hits", x.count(3), 2);
        Checks.due("nothing thrown", x.count(4), 0);

        SloshTank y = new SloshTank();
        y.tank(4, 3, 4, 0);
        y.fill(0, 10);
        y.lean(50);
        y.run(20);
        // a skin's push is 250; of 270 a tenth is 27: nothing goes over
        Checks.levelsDue(y, 0, 4, 3, 3);

        SloshTank z = new SloshTank();
        z.tank(5, 3, 4, 0);
        z.fill(0, 10);
        z.lean(50);
        z.run(1);
        // 1020 - 153 = 867: 4 (all) to room for 1: 3 thrown; then 0, 4, 3: 1020 - 153: 4 to room for 1: 3 thrown
        Checks.levelsDue(z, 0, 0, 0, 4);
        Checks.flowsDue(z, 0, 0, 0);
        Checks.due("no hits", z.count(3), 0);
        Checks.due("thrown", z.count(4), 6);
        Checks.due("out", z.tankTold(0, 3), 6);
        Checks.due("put in", z.tankTold(0, 2), 10);

        SloshTank dry = new SloshTank();
        dry.tank(0, 2, 4, 0);
        dry.fill(0, 1);
        dry.lean(30);
        dry.run(1);
        // 320 - 32 = 288: 2 would go, 1 is there; the flow stays
        Checks.levelsDue(dry, 0, 0, 1);
        Checks.flowsDue(dry, 0, 288);
    }

    private static void justAHundredth() {
        SloshTank x = new SloshTank();
        x.tank(2, 2, 9, 0);
        x.fill(0, 8);
        x.lean(40);
        x.run(1);
        // a bag's push is 20: 200, half of it is lost, a hundredth of 100 goes over
        Checks.flowsDue(x, 0, 100);
        Checks.levelsDue(x, 0, 3, 5);
    }

    private static void drawing() {
        SloshTank x = new SloshTank();
        x.tank(2, 2, 10, 0);
        x.feed(0, 0);
        x.feed(0, 0);
        x.feed(0, 1);
        x.fill(0, 10);
        x.draw(0, 3);
        x.draw(1, 4);
        x.run(1);
        Checks.levelsDue(x, 0, 0, 5);
        Checks.due("the first draws all", x.feedTold(0, 3), 0);
        Checks.due("the second gulps", x.feedTold(1, 3), 2);
        Checks.due("in the very first tick", x.feedTold(1, 4), 0);
        Checks.due("the first never", x.feedTold(0, 4), -1);
        Checks.due("one that doesn't draw never gulps", x.feedTold(2, 3), 0);
        Checks.due("drawn", x.count(5), 5);
        Checks.due("out", x.tankTold(0, 3), 5);
        x.run(1);
        Checks.due("the first gulps, too", x.feedTold(0, 4), 1);
        Checks.due("the first tick stays", x.feedTold(1, 4), 0);
        Checks.due("gulped grows", x.feedTold(1, 3), 6);
        x.fill(0, 13);
        x.run(1);
        Checks.due("the first had 7 of 7 to share", x.feedTold(0, 3), 3);
        x.fill(0, 11);
        x.run(1);
        Checks.due("the second lacks one", x.feedTold(1, 3), 7);
    }

    private static void tipping() {
        SloshTank x = new SloshTank();
        x.carrier(1, 1000);
        x.lean(50);
        x.run(1);
        Checks.due("1000 is not above 1000", x.count(6), 0);
        x.carrier(1, 999);
        Checks.due("not before a tick", x.count(6), 0);
        x.lean(-50);
        x.run(1);
        Checks.due("-1000 is above 999", x.count(6), 1);
        x.lean(0);
        x.run(1);
        Checks.due("it has tipped for good", x.count(6), 1);
    }
}

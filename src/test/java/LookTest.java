/** Promises 14 to 20: what can be looked at. */
public final class LookTest {
    public static void main(String[] args) {
        levelsAndFlows();
        tanks();
        kinds();
        mouths();
        pulls();
        counts();
        Checks.end("LookTest");
    }

    private static void levelsAndFlows() {
        SloshTank x = new SloshTank();
        Checks.due("level of no tank", x.level(0, -1), SloshTank.NONE);
        Checks.due("flow of no tank", x.flow(0, -1), -1000000);
        x.tank(0, 3, 9, 0);
        x.fill(0, 8);
        Checks.due("tank -1", x.level(-1, 0), SloshTank.NONE);
        Checks.due("tank 1", x.level(1, 0), SloshTank.NONE);
        Checks.due("column -1", x.level(0, -1), SloshTank.BAD);
        Checks.due("column 3", x.level(0, 3), SloshTank.BAD);
        Checks.levelsDue(x, 0, 3, 3, 2);
        Checks.due("tank -1", x.flow(-1, 0), -1000000);
        Checks.due("column -1", x.flow(0, -1), -1000001);
        Checks.due("the last column", x.flow(0, 2), -1000001);
        x.run(1);
        Checks.flowsDue(x, 0, 0, 18);
    }

    private static void tanks() {
        SloshTank x = new SloshTank();
        Checks.due("no tank", x.tankTold(0, 9), SloshTank.NONE);
        x.tank(3, 5, 7, 1);
        x.fill(0, 30);
        x.feed(0, 2);
        x.draw(0, 4);
        x.run(1);
        int[] want = {3, 26, 30, 4, 35};
        for (int what = 0; what < 5; what++) {
            Checks.due("tankTold " + what, x.tankTold(0, what), want[what]);
        }
        Checks.due("what -1", x.tankTold(0, -1), SloshTank.BAD);
        Checks.due("what 5", x.tankTold(0, 5), SloshTank.BAD);
        Checks.due("tank -1", x.tankTold(-1, 0), SloshTank.NONE);
        Checks.due("filled anew", x.fill(0, 2), 26);
        Checks.due("put in less", x.tankTold(0, 2), 6);
        Checks.due("out stays", x.tankTold(0, 3), 4);
    }

    private static void kinds() {
        SloshTank x = new SloshTank();
        int[][] want = {{10, 100, 49, 1}, {15, 25, 49, 1}, {50, 100, 24, 1}, {35, 50, 49, 1}, {90, 100, 24, 0}, {15, 25, 98, 0}};
        int[] atFifty = {50, 50, 25, 50, 25, 100};
        for (int kind = 0; kind < 6; kind++) {
            for (int what = 0; what < 4; what++) {
                Checks.due("kindTold " + kind + ", " + what, x.kindTold(kind, what, 49), want[kind][what]);
            }
            Checks.due("no push", x.kindTold(kind, 2, 0), 0);
            Checks.due("a lean of 50", x.kindTold(kind, 2, 50), atFifty[kind]);
        }
        Checks.due("kind -1", x.kindTold(-1, 0, 0), SloshTank.BAD);
        Checks.due("kind 6", x.kindTold(6, 0, 0), SloshTank.BAD);
        Checks.due("what -1", x.kindTold(0, -1, 0), SloshTank.BAD);
        Checks.due("what 4", x.kindTold(0, 4, 0), SloshTank.BAD);
        Checks.due("v -1", x.kindTold(0, 0, -1), SloshTank.BAD);
        Checks.due("v 51", x.kindTold(0, 2, 51), SloshTank.BAD);
    }

    private static void mouths() {
        SloshTank x = new SloshTank();
        Checks.due("no mouth", x.feedTold(0, 9), -5);
        x.tank(0, 2, 9, 0);
        x.tank(0, 6, 9, 0);
        x.feed(1, 5);
        Checks.due("mouth -1", x.feedTold(-1, 0), -5);
        Checks.due("mouth 1", x.feedTold(1, 0), -5);
        Checks.due("what -1", x.feedTold(0, -1), -7);
        Checks.due("what 5", x.feedTold(0, 5), -7);
        Checks.due("it never gulped", x.feedTold(0, 4), -1);
        x.draw(0, 11);
        x.fill(1, 6);
        x.run(3);
        int[] want = {1, 5, 11};
        for (int what = 0; what < 3; what++) {
            Checks.due("feedTold " + what, x.feedTold(0, what), want[what]);
        }
        // what is in front of the mouth runs there by and by: what it lacks of 33 it gulps
        Checks.due("gulped", x.feedTold(0, 3), 33 - x.count(5));
        Checks.due("first", x.feedTold(0, 4), 0);
    }

    private static void pulls() {
        SloshTank x = new SloshTank();
        x.tank(0, 3, 9, -10);
        x.fill(0, 5);
        x.tank(0, 2, 9, 4);
        x.fill(1, 1);
        // 2 * -12 + 2 * -10 + 1 * -8 and 1 * 3
        Checks.due("moment", x.pulls(0), -49);
        x.carrier(0, 13);
        x.lean(3);
        // -49 * 13 = -637: by 10 -63
        Checks.due("pull", x.pulls(1), -63 + 60);
        Checks.due("what -1", x.pulls(-1), -1000000);
        Checks.due("what 2", x.pulls(2), -1000000);
    }

    private static void counts() {
        SloshTank x = new SloshTank();
        x.tank(0, 2, 9, 0);
        x.tank(5, 2, 3, 0);
        x.fill(0, 18);
        x.fill(1, 6);
        x.feed(0, 0);
        x.draw(0, 2);
        x.carrier(1, 0);
        x.lean(50);
        Checks.wayOf(x, "s1;");
        Checks.tellText(x, "s12;");
        Checks.rowOf(x, 0, 0, 1);
        x.record(0, 0, -1, 0);
        x.run(1);
        // a hit in the full tank; a tub of 3, 3 throws 3
        int[] want = {1, 2, 1, 1, 3, 2, 1, 1, 4, 1};
        for (int what = 0; what <= 9; what++) {
            Checks.due("count " + what, x.count(what), want[what]);
        }
        Checks.due("count -1", x.count(-1), SloshTank.BAD);
        Checks.due("count 10", x.count(10), SloshTank.BAD);
    }
}

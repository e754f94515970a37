/** Promises 29 and 30 and the words that they lean on, at their edges. */
public final class EdgeImageTest {
    private static final int STATE = SloshTank.STATE;

    public static void main(String[] args) {
        noneAtFirst();
        ofNothing();
        theImageChangesNothing();
        levelsAndFlows();
        ticks();
        theLastTick();
        leans();
        onNoWay();
        howFarOnTheWay();
        onAnotherWay();
        putInAndOut();
        hitsAndThrown();
        mouths();
        tipped();
        carrierAndWallsStay();
        waysAndTapeStay();
        recordsAndSheetsStay();
        tanksThatCameSince();
        mouthsThatCameSince();
        theLastImage();
        Checks.end("EdgeImageTest");
    }

    /** A full tank, a tub, a mouth in each, without an image. */
    private static SloshTank plain() {
        SloshTank x = new SloshTank();
        x.tank(0, 2, 9, 0);
        x.tank(5, 3, 4, 5);
        x.fill(0, 18);
        x.fill(1, 10);
        x.feed(0, 0);
        x.feed(1, 2);
        Checks.wayOf(x, "l2x7;r3x9;");
        Checks.wayOf(x, "r1x3;");
        return x;
    }

    private static void noneAtFirst() {
        Checks.due("promise 30: none on a new object", new SloshTank().back(), STATE);
        SloshTank x = plain();
        x.run(7);
        SloshTank other = plain();
        other.run(7);
        Checks.due("promise 30: there is none", x.back(), STATE);
        Checks.same("promise 30: that changes nothing", Scenes.seen(x), Scenes.seen(other));
    }

    private static void ofNothing() {
        SloshTank x = new SloshTank();
        Checks.due("promise 29: of a new object", x.image(), 0);
        Checks.due("promise 30: back at once", x.back(), 0);
        x.run(200);
        Checks.due("promise 30: back", x.back(), 0);
        Checks.due("promise 30: TICK", x.count(0), 0);
        Checks.due("promise 30: it stays", x.back(), 0);
    }

    private static void theImageChangesNothing() {
        SloshTank x = Scenes.some();
        String was = Checks.look(x);
        Checks.due("promise 29: TICK", x.image(), 4);
        Checks.same("promise 29: it changes nothing that shows", Checks.look(x), was);
        Checks.due("promise 30: back at once", x.back(), 4);
        Checks.same("promise 30: back at once changes nothing", Checks.look(x), was);
    }

    private static void levelsAndFlows() {
        SloshTank x = plain();
        x.fill(0, 9);
        x.lean(12);
        x.run(2);
        int[] level = {x.level(0, 0), x.level(0, 1), x.level(1, 0), x.level(1, 1), x.level(1, 2)};
        int[] flow = {x.flow(0, 0), x.flow(1, 0), x.flow(1, 1)};
        Checks.holds("promise 29: it flows", flow[0] != 0);
        x.image();
        x.lean(-50);
        x.run(9);
        x.fill(0, 2);
        x.fill(1, 1);
        Checks.due("promise 30: TICK", x.back(), 2);
        Checks.levelsDue(x, 0, level[0], level[1]);
        Checks.levelsDue(x, 1, level[2], level[3], level[4]);
        Checks.flowsDue(x, 0, flow[0]);
        Checks.flowsDue(x, 1, flow[1], flow[2]);
    }

    private static void ticks() {
        SloshTank x = plain();
        x.run(1);
        Checks.due("promise 29: TICK 1", x.image(), 1);
        x.run(5);
        Checks.due("promise 30: TICK 1", x.back(), 1);
        Checks.due("promise 9: it goes on from there", x.run(1), 2);
    }

    private static void theLastTick() {
        SloshTank x = new SloshTank();
        x.run(1);
        x.image();
        for (int k = 0; k < 99; k++) {
            x.run(200);
        }
        x.run(199);
        Checks.due("promise 9: there is no more", x.run(1), SloshTank.FULL);
        Checks.due("promise 30: back from TICK 20000", x.back(), 1);
        Checks.due("promise 9: there are more again", x.run(200), 201);
        SloshTank y = Scenes.full();
        Checks.due("promise 29: at TICK 20000", y.image(), 20000);
        Checks.due("promise 30: to TICK 20000", y.back(), 20000);
        Checks.due("promise 9: none is left", y.run(1), SloshTank.FULL);
    }

    private static void leans() {
        SloshTank x = plain();
        x.lean(-50);
        x.image();
        x.lean(50);
        x.back();
        Checks.due("promise 30: LEAN", x.lean(0), -50);
    }

    private static void onNoWay() {
        SloshTank x = plain();
        x.image();
        x.go(0);
        x.back();
        Checks.due("promise 30: on no WAY", x.go(1), 1);
        x.run(1);
        Checks.due("promise 30: on the other one", x.pulls(1) - x.pulls(0), 60);
    }

    private static void howFarOnTheWay() {
        for (int gone = 0; gone <= 6; gone++) {
            SloshTank x = plain();
            x.fill(0, 0);
            x.fill(1, 0);
            x.go(0);
            for (int k = 0; k < gone; k++) {
                x.run(1);
            }
            x.image();
            int[] pulls = new int[8];
            for (int k = 0; k < 8; k++) {
                x.run(1);
                pulls[k] = x.pulls(1);
            }
            x.back();
            for (int k = 0; k < 8; k++) {
                Checks.due("promise 30: " + gone + " TICKS gone, still on the WAY", x.go(0), gone + k < 6 ? STATE : 0);
                if (gone + k >= 6) {
                    break;
                }
                x.run(1);
                Checks.due("promise 30: the leg by TICKS " + gone + " and " + k, x.pulls(1), pulls[k]);
            }
        }
    }

    private static void onAnotherWay() {
        SloshTank x = plain();
        x.go(1);
        x.image();
        x.run(2);
        x.go(0);
        x.run(3);
        x.back();
        x.run(1);
        Checks.due("promise 30: the WAY that it was on", x.pulls(1) - x.pulls(0), 60);
    }

    private static void putInAndOut() {
        SloshTank x = plain();
        x.draw(0, 3);
        x.draw(1, 1);
        x.run(2);
        int[] was = {x.tankTold(0, 2), x.tankTold(0, 3), x.tankTold(1, 2), x.tankTold(1, 3), x.count(5)};
        Checks.holds("promise 29: some is OUT", was[1] > 0 && was[3] > 0);
        x.image();
        x.fill(0, 1);
        x.fill(1, 12);
        x.run(3);
        x.back();
        Checks.due("promise 30: PUT IN", x.tankTold(0, 2), was[0]);
        Checks.due("promise 30: OUT", x.tankTold(0, 3), was[1]);
        Checks.due("promise 30: PUT IN", x.tankTold(1, 2), was[2]);
        Checks.due("promise 30: OUT", x.tankTold(1, 3), was[3]);
        Checks.due("promise 30: DRAWN", x.count(5), was[4]);
        for (int t = 0; t < 2; t++) {
            Checks.due("promise 9: what was PUT IN is there, or OUT", x.tankTold(t, 1) + x.tankTold(t, 3), x.tankTold(t, 2));
        }
    }

    private static void hitsAndThrown() {
        SloshTank x = plain();
        x.lean(50);
        x.run(1);
        int hits = x.count(3);
        int thrown = x.count(4);
        Checks.holds("promise 29: HITS and THROWN", hits > 0 && thrown > 0);
        x.image();
        x.fill(1, 12);
        x.run(3);
        Checks.holds("promise 29: more of both", x.count(3) > hits && x.count(4) > thrown);
        x.back();
        Checks.due("promise 30: HITS", x.count(3), hits);
        Checks.due("promise 30: THROWN", x.count(4), thrown);
    }

    private static void mouths() {
        SloshTank x = plain();
        x.fill(0, 0);
        x.draw(0, 50);
        x.run(1);
        x.image();
        x.draw(0, 7);
        x.draw(1, 8);
        x.run(9);
        x.back();
        Checks.due("promise 30: what it DRAWS", x.feedTold(0, 2), 50);
        Checks.due("promise 30: what the other one DRAWS", x.feedTold(1, 2), 0);
        Checks.due("promise 30: GULPED", x.feedTold(0, 3), 50);
        Checks.due("promise 30: the other one has not", x.feedTold(1, 3), 0);
        Checks.due("promise 30: the first TICK in which it GULPED", x.feedTold(0, 4), 0);
    }

    private static void tipped() {
        SloshTank x = plain();
        x.image();
        x.lean(50);
        x.carrier(1, 0);
        x.run(1);
        Checks.due("promise 9: TIPPED", x.count(6), 1);
        x.back();
        Checks.due("promise 30: not TIPPED", x.count(6), 0);
        x.lean(50);
        x.run(1);
        x.image();
        x.lean(0);
        x.run(1);
        x.back();
        Checks.due("promise 30: TIPPED", x.count(6), 1);
    }

    private static void carrierAndWallsStay() {
        SloshTank x = plain();
        x.wall(1, 0, 1);
        x.image();
        x.carrier(0, 50);
        x.carrier(1, 7);
        x.wall(1, 0, 0);
        x.wall(1, 1, 1);
        x.back();
        Checks.due("promise 29: HEAVY is nothing else", x.carrier(0, 10), 50);
        Checks.due("promise 29: GRIP is nothing else", x.carrier(1, 10), 7);
        Checks.due("promise 29: a WALL is nothing else", x.wall(1, 0, 1), 0);
        Checks.due("promise 29: a WALL is nothing else", x.wall(1, 1, 1), 1);
    }

    private static void waysAndTapeStay() {
        SloshTank x = plain();
        Checks.tellText(x, "s1");
        x.image();
        Checks.due("promise 11: the tape goes on", Checks.wayOf(x, "2;"), 2);
        Checks.tellText(x, "s3;");
        x.back();
        Checks.due("promise 29: WAYS are nothing else", x.count(7), 3);
        Checks.due("promise 29: their legs", x.wayTold(2, 0, 1), 12);
        Checks.due("promise 29: THE TAPE is nothing else", x.count(8), 3);
        Checks.due("promise 29: its bytes", x.way(), 3);
        Checks.due("promise 29: its leg", x.wayTold(3, 0, 1), 3);
    }

    private static void recordsAndSheetsStay() {
        SloshTank x = plain();
        Checks.rowOf(x, 0, 0, 2, 2, 9, 5);
        x.record(0, 0, -1, 0);
        x.image();
        x.bar(0, 1);
        x.cell(0, 0, 3);
        x.record(0, 1, -1, 0);
        x.sheet(1, 1, 3);
        x.lean(50);
        x.sheet(2, 0, 0);
        x.walls(0, 2, -1, 0);
        int pull = x.wallsPull();
        x.back();
        Checks.due("promise 29: RECORDS are nothing else", x.count(9), 2);
        Checks.due("promise 29: a bar neither", x.bar(0, 0), 1);
        Checks.due("promise 29: a SHEET neither", x.cell(1, 2, 1), 1);
        Checks.due("promise 29: its numbers neither", x.tanks(0, 0, 0, 1), 1);
        Checks.due("promise 29: by the later number", x.tankTold(2, 0), 3);
        Checks.holds("promise 29: wallsPull neither", pull >= 1000 && x.wallsPull() == pull);
    }

    private static void tanksThatCameSince() {
        SloshTank x = plain();
        x.image();
        for (int t = 2; t < 5; t++) {
            x.tank(t, 4, 7, 11);
            x.fill(t, 20);
            x.wall(t, 1, 1);
        }
        x.lean(50);
        x.run(5);
        Checks.due("promise 30: TICK", x.back(), 0);
        Checks.due("promise 30: they stay", x.count(1), 5);
        for (int t = 2; t < 5; t++) {
            int[] due = {t, 0, 0, 0, 28};
            for (int what = 0; what < 5; what++) {
                Checks.due("promise 30: of an empty one what " + what, x.tankTold(t, what), due[what]);
            }
            Checks.levelsDue(x, t, 0, 0, 0, 0);
            Checks.flowsDue(x, t, 0, 0, 0);
            Checks.due("promise 30: a WALL stays", x.wall(t, 1, 1), 1);
            Checks.due("promise 4: it can be filled", x.fill(t, 28), 0);
        }
        Checks.due("promise 30: the others are as they were", x.tankTold(0, 1), 18);
    }

    private static void mouthsThatCameSince() {
        SloshTank x = plain();
        x.draw(0, 2);
        x.image();
        for (int f = 2; f < 6; f++) {
            x.feed(1, 0);
            x.draw(f, 9);
        }
        x.run(5);
        Checks.holds("promise 9: they GULPED", x.feedTold(5, 3) > 0);
        x.back();
        Checks.due("promise 30: they stay", x.count(2), 6);
        for (int f = 2; f < 6; f++) {
            int[] due = {1, 0, 0, 0, -1};
            for (int what = 0; what < 5; what++) {
                Checks.due("promise 30: of a later one what " + what, x.feedTold(f, what), due[what]);
            }
        }
        Checks.due("promise 30: the first one DRAWS as it did", x.feedTold(0, 2), 2);
    }

    private static void theLastImage() {
        SloshTank x = plain();
        x.image();
        x.run(3);
        Checks.due("promise 29: another one", x.image(), 3);
        x.run(3);
        Checks.due("promise 30: the last one", x.back(), 3);
        x.run(9);
        Checks.due("promise 30: it is still there", x.back(), 3);
        x.tank(0, 2, 9, 0);
        x.fill(2, 5);
        x.image();
        x.fill(2, 7);
        x.back();
        Checks.due("promise 30: a tank that came ahead of the last one", x.tankTold(2, 1), 5);
    }
}

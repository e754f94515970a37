/** Promise 9: a TICK, part by part, at the edges that the words tell of it. Sums are done by hand. */
public final class EdgeTickTest {
    public static void main(String[] args) {
        firstTickOfAWay();
        legsOfNoTicks();
        wayWithoutLegs();
        lastTickOfAWay();
        lastOfTwelveLegs();
        aLeanOnAWay();
        bordersOneByOne();
        dampIsCut();
        throughIsCut();
        pushIsCut();
        hundredthIsCut();
        asMuchAsThereIs();
        justRoomEnough();
        oneTooMany();
        oneHitForABorder();
        noHitWithoutAnythingToMove();
        thrownOut();
        mouthsBehindTheFlow();
        mouthsByNumbers();
        justWhatItDraws();
        firstGulp();
        whoDoesNotDraw();
        tippedEitherWay();
        tippedBehindTheMouths();
        momentAndPull();
        pullIsCut();
        Checks.end("EdgeTickTest");
    }

    /** One tank of two columns; what is told of it behind a TICK. */
    private static SloshTank pair(int kind, int high, int all, int lean) {
        SloshTank x = new SloshTank();
        x.tank(kind, 2, high, 0);
        x.fill(0, all);
        x.lean(lean);
        x.run(1);
        return x;
    }

    private static SloshTank onWay(String text) {
        SloshTank x = new SloshTank();
        x.lean(50);
        Checks.due("a way", Checks.wayOf(x, text), 0);
        x.go(0);
        Checks.due("promise 13: LEAN stays until a TICK", x.pulls(1), 1000);
        return x;
    }

    private static void leansDue(String what, SloshTank x, int... leans) {
        for (int k = 0; k < leans.length; k++) {
            x.run(1);
            Checks.due("promise 9: " + what + ", LEAN behind TICK " + k, x.pulls(1), 20 * leans[k]);
        }
    }

    private static void firstTickOfAWay() {
        SloshTank x = onWay("l1x7;r2x9;s1;l1x3;");
        leansDue("the first leg at the start", x, -7, 9, 9, 0, -3, 0, 0);
        SloshTank y = new SloshTank();
        y.tank(0, 2, 9, 0);
        y.fill(0, 8);
        Checks.wayOf(y, "r1x40;");
        y.go(0);
        y.run(1);
        // LEAN of the leg counts in its TICK: 400 - 40 = 360.
        Checks.flowsDue(y, 0, 360);
    }

    private static void legsOfNoTicks() {
        leansDue("a leg of 0 TICKS at first", onWay("l0x7;r1x9;"), 9, 0);
        leansDue("one within", onWay("l1x7;r0x9;r0x8;l1x5;"), -7, -5, 0);
        leansDue("one at the end", onWay("l1x7;r0x9;"), -7, 0);
        leansDue("just such legs", onWay("l0x7;r0x9;"), 0, 0);
    }

    private static void wayWithoutLegs() {
        SloshTank x = onWay("");
        Checks.due("promise 13: it is on it", x.go(0), SloshTank.STATE);
        leansDue("no leg", x, 0);
        Checks.due("promise 9: it is on no WAY any more", x.go(0), 0);
        SloshTank y = onWay("");
        y.tank(0, 2, 9, 0);
        y.fill(0, 8);
        y.run(1);
        // LEAN is 0 ahead of (2).
        Checks.flowsDue(y, 0, 0);
    }

    private static void lastTickOfAWay() {
        SloshTank x = onWay("l2x7;");
        leansDue("its two TICKS", x, -7, -7);
        Checks.due("promise 9: it is still on the WAY", x.go(0), SloshTank.STATE);
        leansDue("the TICK behind it", x, 0);
        x.lean(5);
        leansDue("a LEAN on no WAY stays", x, 5, 5);
        Checks.due("promise 9: it is on no WAY", x.go(0), 0);
        leansDue("the same WAY from its start", x, -7, -7, 0);
    }

    private static void lastOfTwelveLegs() {
        leansDue("twelve legs", onWay("(6:l1x1;r1x2;)"), -1, 2, -1, 2, -1, 2, -1, 2, -1, 2, -1, 2, 0, 0);
        leansDue("twelve legs of no TICKS", onWay("(12:r0x9;)"), 0, 0);
        SloshTank x = new SloshTank();
        Checks.due("promise 11: a FAULT behind three legs", Checks.wayOf(x, "r1x5;r1x6;r1x7;q"), -115);
        Checks.wayOf(x, "r1x8;");
        x.go(0);
        leansDue("legs of a FAULT are none of the next WAY", x, 8, 0);
    }

    private static void aLeanOnAWay() {
        SloshTank x = onWay("l3x7;r1x9;");
        leansDue("the leg's", x, -7);
        x.lean(4);
        leansDue("what was set stays until the next leg", x, 4, 4, 9, 0);
    }

    private static void bordersOneByOne() {
        SloshTank x = new SloshTank();
        x.tank(0, 3, 20, 0);
        x.fill(0, 30);
        x.lean(20);
        x.run(1);
        // 200 - 20 = 180: 1 goes; then 20 * (11 - 10) + 200 = 220 - 22 = 198.
        Checks.flowsDue(x, 0, 180, 198);
        Checks.levelsDue(x, 0, 9, 10, 11);
        x.lean(-20);
        x.run(1);
        // 180 - 20 - 200 = -40 + 4 = -36; then 198 - 20 - 200 = -22 + 2 = -20.
        Checks.flowsDue(x, 0, -36, -20);
        Checks.levelsDue(x, 0, 9, 10, 11);
    }

    private static void dampIsCut() {
        // 10 * PUSH: of 50 that are 7.5 at 15, of 10 that are 3.5 at 35, of 20 that are 18 at 90.
        Checks.due("promise 9: DAMP 15 of 50", pair(1, 9, 8, 5).flow(0, 0), 43);
        Checks.due("promise 9: DAMP 15 of -50", pair(1, 9, 8, -5).flow(0, 0), -43);
        Checks.due("promise 9: DAMP 35 of 10", pair(3, 9, 8, 1).flow(0, 0), 7);
        Checks.due("promise 9: DAMP 35 of -10", pair(3, 9, 8, -1).flow(0, 0), -7);
        Checks.due("promise 9: DAMP 90 of 20", pair(4, 9, 8, 4).flow(0, 0), 2);
        Checks.due("promise 9: DAMP 10 of 0", pair(0, 9, 8, 0).flow(0, 0), 0);
    }

    private static void throughIsCut() {
        // Of 43 a fourth is 10.75, of 7 the half is 3.5, of 17 a fourth is 4.25.
        int[][] due = {{0, 5, 45}, {1, 5, 10}, {2, 10, 25}, {3, 1, 3}, {4, 4, 2}, {5, 1, 4}};
        for (int[] row : due) {
            for (int side = -1; side <= 1; side += 2) {
                SloshTank x = new SloshTank();
                x.tank(row[0], 2, 9, 0);
                x.fill(0, 8);
                x.wall(0, 0, 1);
                x.lean(side * row[1]);
                x.run(1);
                Checks.due("promise 9: THROUGH of KIND " + row[0], x.flow(0, 0), side * row[2]);
            }
        }
    }

    private static void pushIsCut() {
        // A bag's PUSH of 7 is 3: 30 - 15; a skin's: 30 - 27; a tub's is 14: 140 - 21.
        Checks.due("promise 9: half of 7", pair(2, 9, 8, 7).flow(0, 0), 15);
        Checks.due("promise 9: half of -7", pair(2, 9, 8, -7).flow(0, 0), -15);
        Checks.due("promise 9: half of 1", pair(2, 9, 8, 1).flow(0, 0), 0);
        Checks.due("promise 9: half of -1", pair(2, 9, 8, -1).flow(0, 0), 0);
        Checks.due("promise 9: half of 50", pair(2, 9, 8, 50).flow(0, 0), 125);
        Checks.due("promise 9: a skin's half of -7", pair(4, 9, 8, -7).flow(0, 0), -3);
        Checks.due("promise 9: twice 7", pair(5, 9, 8, 7).flow(0, 0), 119);
        Checks.due("promise 9: twice -50", pair(5, 99, 60, -50).flow(0, 0), -850);
    }

    private static void hundredthIsCut() {
        levelsBehind("99", pair(0, 9, 8, 11), 99, 4, 4);
        levelsBehind("-99", pair(0, 9, 8, -11), -99, 4, 4);
        levelsBehind("100", pair(2, 9, 8, 40), 100, 3, 5);
        levelsBehind("-100", pair(2, 9, 8, -40), -100, 5, 3);
        levelsBehind("198", pair(0, 9, 8, 22), 198, 3, 5);
        levelsBehind("-198", pair(0, 9, 8, -22), -198, 5, 3);
        // A tub's 240 - 36.
        levelsBehind("204", pair(5, 9, 8, 12), 204, 2, 6);
    }

    private static void levelsBehind(String what, SloshTank x, int flow, int... levels) {
        Checks.due("promise 9: FLOW " + what, x.flow(0, 0), flow);
        for (int c = 0; c < levels.length; c++) {
            Checks.due("promise 9: LEVEL " + c + " by a FLOW of " + what, x.level(0, c), levels[c]);
        }
    }

    private static void asMuchAsThereIs() {
        // 500 and 20 for each that is more ahead, less a tenth: 4 would go.
        levelsBehind("450, 5 there", pair(0, 20, 10, 50), 450, 1, 9);
        levelsBehind("450, 4 there", pair(0, 20, 8, 50), 450, 0, 8);
        levelsBehind("450, 3 there", pair(0, 20, 6, 50), 450, 0, 6);
        levelsBehind("450, none there", pair(0, 20, 0, 50), 450, 0, 0);
        levelsBehind("-450, 3 there", pair(0, 20, 6, -50), -450, 6, 0);
        levelsBehind("-432, none behind", pair(0, 20, 1, -50), -432, 1, 0);
        Checks.due("promise 9: that is no HIT", pair(0, 20, 6, 50).count(3), 0);
    }

    private static void justRoomEnough() {
        // 320 - 32 = 288: 2 go, there is room for 2.
        SloshTank x = pair(0, 4, 5, 30);
        levelsBehind("288", x, 288, 1, 4);
        Checks.due("promise 9: no HIT", x.count(3), 0);
        SloshTank y = pair(0, 4, 4, -30);
        levelsBehind("-270", y, -270, 4, 0);
        Checks.due("promise 9: no HIT", y.count(3), 0);
    }

    private static void oneTooMany() {
        // 300 - 30 = 270: 2 would go, there is room for 1.
        SloshTank x = pair(0, 4, 6, 30);
        levelsBehind("270, a HIT", x, 0, 2, 4);
        Checks.due("promise 9: a HIT", x.count(3), 1);
        SloshTank y = pair(0, 4, 6, -30);
        levelsBehind("-270, a HIT", y, 0, 4, 2);
        Checks.due("promise 9: a HIT", y.count(3), 1);
        Checks.due("promise 9: with a LID nothing is THROWN", y.count(4), 0);
        Checks.due("promise 9: nor OUT", y.tankTold(0, 3), 0);
    }

    private static void oneHitForABorder() {
        SloshTank x = pair(0, 9, 18, 50);
        levelsBehind("450 into a full one", x, 0, 9, 9);
        Checks.due("promise 9: one HIT, not four", x.count(3), 1);
        x.run(5);
        Checks.due("promise 9: one more in each TICK", x.count(3), 6);
        SloshTank y = new SloshTank();
        y.tank(0, 12, 9, 0);
        y.tank(3, 3, 9, 0);
        y.fill(0, 108);
        y.fill(1, 27);
        y.lean(50);
        y.run(1);
        Checks.due("promise 9: one for each of 11 and 2 borders", y.count(3), 13);
    }

    private static void noHitWithoutAnythingToMove() {
        // 11 * 10 - 11 = 99: nothing would go, so nothing finds no room.
        SloshTank x = pair(0, 4, 8, 11);
        levelsBehind("99 into a full one", x, 99, 4, 4);
        Checks.due("promise 9: no HIT", x.count(3), 0);
        // 20 - 500 = -480 + 48: from an empty column into a full one.
        SloshTank y = pair(0, 1, 1, -50);
        levelsBehind("-432 of nothing", y, -432, 1, 0);
        Checks.due("promise 9: no HIT", y.count(3), 0);
    }

    private static void thrownOut() {
        // A tub's 600 - 90 = 510: 5 would go, 3 are there, room is for 1.
        SloshTank x = pair(5, 4, 6, 30);
        levelsBehind("510, no LID", x, 0, 0, 4);
        Checks.due("promise 9: THROWN", x.count(4), 2);
        Checks.due("promise 9: OUT", x.tankTold(0, 3), 2);
        Checks.due("promise 9: no HIT", x.count(3), 0);
        // 20 + 180 - 30 = 170: 1 goes, room is for 1.
        SloshTank y = pair(5, 4, 7, 9);
        levelsBehind("170, no LID", y, 170, 3, 4);
        Checks.due("promise 9: nothing is THROWN", y.count(4), 0);
        // 140 - 21 = 119: 1 goes, there is no room at all.
        SloshTank z = pair(5, 4, 8, 7);
        levelsBehind("119, no LID", z, 0, 3, 4);
        Checks.due("promise 9: one is THROWN", z.count(4), 1);
        // Of full ones 3 go over each border and find no room; the last column stays full.
        SloshTank three = new SloshTank();
        three.tank(5, 3, 3, 0);
        three.tank(5, 2, 3, 0);
        three.fill(0, 9);
        three.fill(1, 6);
        three.lean(50);
        three.run(1);
        Checks.due("promise 9: OUT over both borders", three.tankTold(0, 3), 6);
        Checks.due("promise 9: OUT of the other tank", three.tankTold(1, 3), 3);
        Checks.due("promise 9: THROWN in all", three.count(4), 9);
        three.fill(0, 9);
        three.run(1);
        Checks.due("promise 9: OUT in both TICKS", three.tankTold(0, 3), 12);
        Checks.due("promise 9: THROWN in both TICKS", three.count(4), 15);
        // A skin has no LID either, but 250 and 28 less nine tenths (cut) stay 28: too little for a full one.
        SloshTank skin = pair(4, 99, 198, 50);
        skin.run(199);
        levelsBehind("28, no LID", skin, 28, 99, 99);
        Checks.due("promise 9: nothing is THROWN", skin.count(4), 0);
    }

    private static void mouthsBehindTheFlow() {
        SloshTank x = new SloshTank();
        x.tank(0, 2, 9, 0);
        x.fill(0, 1);
        x.feed(0, 1);
        x.feed(0, 0);
        x.draw(0, 1);
        x.draw(1, 1);
        x.lean(50);
        x.run(1);
        Checks.due("promise 9: what came over is DRAWN", x.feedTold(0, 3), 0);
        Checks.due("promise 9: what went is GULPED", x.feedTold(1, 3), 1);
        Checks.due("promise 9: DRAWN", x.count(5), 1);
    }

    private static void mouthsByNumbers() {
        SloshTank x = new SloshTank();
        x.tank(0, 2, 9, 0);
        x.fill(0, 10);
        for (int f = 0; f < 3; f++) {
            x.feed(0, 0);
            x.draw(f, 2);
        }
        x.run(1);
        int[] gulped = {0, 0, 1};
        for (int f = 0; f < 3; f++) {
            Checks.due("promise 9: 5 for three of 2, mouth " + f, x.feedTold(f, 3), gulped[f]);
        }
        Checks.due("promise 9: DRAWN", x.count(5), 5);
        Checks.due("promise 9: OUT", x.tankTold(0, 3), 5);
    }

    private static void justWhatItDraws() {
        for (int draws = 4; draws <= 6; draws++) {
            SloshTank x = new SloshTank();
            x.tank(0, 2, 9, 0);
            x.fill(0, 10);
            x.feed(0, 1);
            x.draw(0, draws);
            x.run(1);
            Checks.due("promise 9: of 5 it DRAWS " + draws, x.count(5), Math.min(draws, 5));
            Checks.due("promise 9: is left", x.level(0, 1), 5 - Math.min(draws, 5));
            Checks.due("promise 9: GULPED", x.feedTold(0, 3), Math.max(draws - 5, 0));
            Checks.due("promise 9: the very first TICK, or never", x.feedTold(0, 4), draws > 5 ? 0 : -1);
        }
    }

    private static void firstGulp() {
        SloshTank x = new SloshTank();
        x.tank(0, 2, 9, 0);
        x.fill(0, 6);
        x.feed(0, 0);
        x.run(2);
        x.draw(0, 3);
        x.run(1);
        Checks.due("promise 9: 3 of 3", x.feedTold(0, 4), -1);
        x.run(1);
        Checks.due("promise 9: the first TICK in which it GULPED", x.feedTold(0, 4), 3);
        Checks.due("promise 9: GULPED", x.feedTold(0, 3), 3);
        x.fill(0, 18);
        x.run(1);
        Checks.due("promise 9: it stays", x.feedTold(0, 4), 3);
        x.fill(0, 0);
        x.draw(0, 50);
        x.run(1);
        Checks.due("promise 9: it stays by another one", x.feedTold(0, 4), 3);
        Checks.due("promise 9: GULPED together", x.feedTold(0, 3), 53);
    }

    private static void whoDoesNotDraw() {
        SloshTank x = new SloshTank();
        x.tank(0, 2, 9, 0);
        x.feed(0, 0);
        x.run(3);
        Checks.due("promise 9: one that does not DRAW, of nothing", x.feedTold(0, 3), 0);
        Checks.due("promise 9: it never GULPED", x.feedTold(0, 4), -1);
        Checks.due("promise 9: nothing is DRAWN", x.count(5), 0);
    }

    private static void tippedEitherWay() {
        for (int side = -1; side <= 1; side += 2) {
            SloshTank x = new SloshTank();
            x.carrier(1, 1000);
            x.lean(side * 50);
            x.run(1);
            Checks.due("promise 9: 1000 is not above 1000", x.count(6), 0);
            x.carrier(1, 999);
            Checks.due("promise 9: not ahead of a TICK", x.count(6), 0);
            x.run(1);
            Checks.due("promise 9: 1000 is above 999", x.count(6), 1);
            x.lean(0);
            x.carrier(1, 100000);
            x.run(1);
            Checks.due("promise 9: it has TIPPED once and for all", x.count(6), 1);
        }
        SloshTank still = new SloshTank();
        still.carrier(1, 0);
        still.run(1);
        Checks.due("promise 9: 0 is not above 0", still.count(6), 0);
    }

    private static void tippedBehindTheMouths() {
        SloshTank x = new SloshTank();
        x.tank(0, 2, 9, 50);
        x.fill(0, 10);
        x.feed(0, 0);
        x.draw(0, 5);
        x.carrier(1, 255);
        Checks.due("promise 9: PULL ahead of the TICK", x.pulls(1), 500);
        x.run(1);
        Checks.due("promise 9: PULL behind it", x.pulls(1), 255);
        Checks.due("promise 9: not TIPPED", x.count(6), 0);
        Checks.due("promise 9: TICK is 1 more", x.count(0), 1);
    }

    private static void momentAndPull() {
        SloshTank x = new SloshTank();
        int most = 0;
        for (int t = 0; t < 5; t++) {
            x.tank(0, 12, 99, 50);
            x.fill(t, 1188);
            most += 1188 * 50;
        }
        x.carrier(0, 50);
        x.lean(50);
        Checks.due("promise 19: the greatest MOMENT", x.pulls(0), most);
        Checks.due("promise 19: the greatest PULL", x.pulls(1), 5 * most + 1000);
        SloshTank y = new SloshTank();
        y.tank(0, 12, 99, -50);
        y.fill(0, 1188);
        y.carrier(0, 50);
        y.lean(-50);
        Checks.due("promise 19: below 0", y.pulls(1), -5 * 59400 - 1000);
    }

    private static void pullIsCut() {
        SloshTank x = new SloshTank();
        x.tank(0, 2, 9, 20);
        x.tank(0, 2, 9, -20);
        x.fill(0, 1);
        x.carrier(0, 1);
        Checks.due("promise 19: a tenth of 19", x.pulls(1), 1);
        x.fill(0, 0);
        x.fill(1, 1);
        Checks.due("promise 19: a tenth of -21", x.pulls(1), -2);
        x.carrier(0, 9);
        Checks.due("promise 19: nine tenths of -21", x.pulls(1), -18);
        x.lean(1);
        // -18.9 is cut ahead of the LEAN: -18 + 20, not 1.1.
        Checks.due("promise 19: cut ahead of LEAN", x.pulls(1), 2);
    }
}

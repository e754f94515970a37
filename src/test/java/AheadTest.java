/** Promises 21 to 25: what would be. Each search is tried again by running, and going back. */
public final class AheadTest {
    public static void main(String[] args) {
        besideRefusals();
        besideIsAsRun();
        besideOnAWay();
        worstFillRefusals();
        worstFillSteps();
        worstFillIsAsRun();
        sixtyTicks();
        wallsRefusals();
        wallsAreAsRun();
        wallsOfLikeOnes();
        drawOrders();
        Checks.end("AheadTest");
    }

    /** Four tanks of other kinds, a mouth in each of two, two ways; it is on the first one. */
    private static SloshTank loaded(int seed) {
        SloshTank x = new SloshTank();
        x.tank(seed % 6, 5, 12, -9);
        x.tank((seed + 1) % 6, 4, 9, 7);
        x.tank((seed + 3) % 6, 7, 6, 30);
        x.tank((seed + 5) % 6, 2, 20, -40);
        for (int t = 0; t < 4; t++) {
            x.fill(t, x.tankTold(t, 4) * (2 + t) / 6);
        }
        x.wall(0, 1, 1);
        x.wall(2, 4, 1);
        x.feed(0, 4);
        x.feed(1, 0);
        x.draw(0, 1);
        x.draw(1, 2);
        Checks.wayOf(x, "s2;l9x30;(3:r3x45;l4x20;)");
        Checks.wayOf(x, "r12x50;l20x50;");
        x.carrier(0, 3 + seed);
        x.lean(20 - seed);
        x.run(1);
        x.go(0);
        x.run(4);
        return x;
    }

    /** The worst pull of so many ticks, by running them; everything is as it was behind it. */
    private static int worstByRunning(SloshTank x, int n) {
        int worst = 0;
        for (int k = 0; k < n; k++) {
            x.run(1);
            worst = Math.max(worst, Math.abs(x.pulls(1)));
        }
        return worst;
    }

    private static void besideRefusals() {
        SloshTank x = new SloshTank();
        Checks.due("no way", x.beside(0, 0, 9), SloshTank.NONE);
        Checks.due("way -2", x.beside(-2, 0, 9), SloshTank.NONE);
        Checks.due("0 ticks", x.beside(-1, 0, 0), SloshTank.BAD);
        Checks.due("201 ticks", x.beside(-1, 201, 0), SloshTank.BAD);
        Checks.due("what -1", x.beside(-1, 1, -1), SloshTank.BAD);
        Checks.due("what 5", x.beside(-1, 1, 5), SloshTank.BAD);
        Checks.due("200 ticks", x.beside(-1, 200, 0), 0);
        x.lean(-13);
        Checks.due("1 tick", x.beside(-1, 1, 0), 260);
        x.carrier(1, 260);
        Checks.due("260 is not above 260", x.beside(-1, 9, 3), 0);
        x.carrier(1, 259);
        Checks.due("260 is above 259", x.beside(-1, 9, 3), 1);
        Checks.due("it has not tipped", x.count(6), 0);
    }

    private static void besideIsAsRun() {
        for (int seed = 0; seed < 6; seed++) {
            for (int n = 1; n <= 64; n *= 4) {
                SloshTank x = loaded(seed);
                String was = Checks.look(x);
                int[] told = new int[5];
                for (int what = 0; what < 5; what++) {
                    told[what] = x.beside(-1, n, what);
                }
                Checks.holds("nothing changes", was.equals(Checks.look(x)));
                int hits = x.count(3);
                int thrown = x.count(4);
                int drawn = x.count(5);
                int worst = worstByRunning(x, n);
                String what = "seed " + seed + ", " + n + " ticks: ";
                Checks.due(what + "worst", told[0], worst);
                Checks.due(what + "hits", told[1], x.count(3) - hits);
                Checks.due(what + "thrown", told[2], x.count(4) - thrown);
                Checks.due(what + "tips", told[3], worst > 2000 ? 1 : 0);
                Checks.due(what + "drawn", told[4], x.count(5) - drawn);
            }
        }
    }

    private static void besideOnAWay() {
        for (int seed = 0; seed < 6; seed++) {
            SloshTank x = loaded(seed);
            int again = x.beside(0, 30, 0);
            int other = x.beside(1, 30, 0);
            // The way must end before another one is begun: so the run is from an image ahead of the way.
            SloshTank y = onNoWay(seed);
            int asOther = y.beside(1, 30, 0);
            y.image();
            y.go(1);
            Checks.due("on another way", asOther, worstByRunning(y, 30));
            y.back();
            int asFirst = y.beside(0, 30, 0);
            y.go(0);
            Checks.due("on a way", asFirst, worstByRunning(y, 30));
            Checks.holds("on a way already: from its start", again != x.beside(-1, 30, 0) || other != again);
        }
        SloshTank z = new SloshTank();
        Checks.wayOf(z, "r3x10;l3x20;s1;");
        z.go(0);
        z.run(4);
        Checks.due("it goes on as now", z.beside(-1, 2, 0), 400);
        Checks.due("from its start", z.beside(0, 2, 0), 200);
        Checks.due("it ends", z.beside(0, 200, 0), 400);
        z.run(1);
        Checks.due("it is where it was", z.pulls(1), -400);
        z.run(1);
        Checks.due("the leg's last tick", z.pulls(1), -400);
        z.run(1);
        Checks.due("the last leg", z.pulls(1), 0);
    }

    private static SloshTank onNoWay(int seed) {
        SloshTank x = loaded(seed);
        x.run(60);
        for (int t = 0; t < 4; t++) {
            x.fill(t, x.tankTold(t, 4) / 2);
        }
        return x;
    }

    private static void worstFillRefusals() {
        SloshTank x = new SloshTank();
        Checks.due("no tank", x.worstFill(0, -1, 0), SloshTank.NONE);
        x.tank(0, 4, 10, 0);
        Checks.due("no way", x.worstFill(0, 0, 0), SloshTank.NONE);
        Checks.due("way -2", x.worstFill(0, -2, 0), SloshTank.NONE);
        Checks.due("by 0", x.worstFill(0, -1, 0), SloshTank.BAD);
        Checks.due("by 1201", x.worstFill(0, -1, 1201), SloshTank.BAD);
        Checks.due("by 1200", x.worstFill(0, -1, 1200), 0);
        Checks.due("by 1", x.worstFill(0, -1, 1), 2);
    }

    /** Grown far to one side, the fullest fill that is tried pulls most: which one that is. */
    private static void worstFillSteps() {
        // columns, high, by, the greatest fill tried
        int[][] due = {
            {2, 1, 1, 2}, {2, 12, 1, 24}, {5, 5, 1, 24}, {5, 5, 2, 24}, {5, 5, 3, 24}, {5, 5, 5, 25},
            {7, 7, 1, 48}, {7, 7, 3, 48}, {7, 7, 4, 48}, {7, 7, 49, 49}, {7, 7, 50, 0}, {12, 99, 1, 1150},
            {12, 99, 1188, 1188}, {12, 99, 1200, 0}, {6, 20, 7, 119}, {4, 6, 1, 24}
        };
        for (int[] row : due) {
            SloshTank x = new SloshTank();
            x.tank(2, row[0], row[1], 50);
            Checks.due("of " + row[0] * row[1] + " by " + row[2], x.worstFill(0, -1, row[2]), row[3]);
        }
    }

    private static void worstFillIsAsRun() {
        for (int seed = 0; seed < 6; seed++) {
            SloshTank x = loaded(seed);
            for (int t = 0; t < 4; t++) {
                String was = Checks.look(x);
                int told = x.worstFill(t, -1, 3);
                Checks.holds("nothing changes", was.equals(Checks.look(x)));
                Checks.due("worst fill, as now", told, worstFillByRunning(x, t, -1, 3));
            }
            SloshTank y = onNoWay(seed);
            for (int t = 0; t < 4; t++) {
                Checks.due("worst fill, on a way", y.worstFill(t, t % 2, 1), worstFillByRunning(y, t, t % 2, 1));
            }
        }
    }

    private static int worstFillByRunning(SloshTank x, int t, int y, int by) {
        int room = x.tankTold(t, 4);
        int step = Math.max(by, (room + 23) / 24);
        int found = -1;
        int greatest = -1;
        x.image();
        for (int all = 0; all <= room; all += step) {
            x.fill(t, all);
            if (y >= 0) {
                Checks.due("go", x.go(y), y);
            }
            int worst = worstByRunning(x, 60);
            if (worst > greatest) {
                greatest = worst;
                found = all;
            }
            x.back();
        }
        return found;
    }

    /** Ways on which the 60th tick, or the 61st, is the one with the greatest pull. */
    private static void sixtyTicks() {
        SloshTank x = new SloshTank();
        x.tank(0, 2, 5, 50);
        Checks.wayOf(x, "l59x50;r1x50;");
        Checks.wayOf(x, "l59x50;s1;r1x50;");
        x.sheet(0, 0, 0);
        // A full tank pulls 500 to one side, a lean of 50 1000 to either.
        Checks.due("the 60th is seen", x.worstFill(0, 0, 1), 10);
        Checks.due("the 61st is not", x.worstFill(0, 1, 1), 0);
        x.fill(0, 10);
        Checks.due("no borders", x.walls(0, 0, 0, 0), 0);
        Checks.due("the 60th is seen", x.wallsPull(), 1500);
        Checks.due("no borders", x.walls(0, 0, 1, 0), 0);
        Checks.due("the 61st is not", x.wallsPull(), 500);
    }

    private static void wallsRefusals() {
        SloshTank x = new SloshTank();
        Checks.due("no tank", x.walls(0, 9, 9, 9), SloshTank.NONE);
        x.tank(1, 4, 10, 0);
        Checks.due("sheet -1", x.walls(0, -1, -1, 0), SloshTank.NONE);
        Checks.due("sheet 4", x.walls(0, 4, -1, 0), SloshTank.NONE);
        Checks.due("no way, ahead of nothing there", x.walls(0, 0, 0, 9), SloshTank.NONE);
        Checks.due("way -2", x.walls(0, 0, -2, 9), SloshTank.NONE);
        Checks.due("nothing there, ahead of bad", x.walls(0, 0, -1, 9), -11);
        Checks.rowOf(x, 0, 1, 0, 0, 0, 0, 0, 0, 0);
        Checks.due("7 borders", x.walls(0, 0, -1, 1), SloshTank.BAD);
        Checks.rowOf(x, 0, 1, 0, 0, 0, 0, 0, 0);
        Checks.due("6 borders", x.walls(0, 0, -1, 1), 0);
        Checks.due("most -1", x.walls(0, 0, -1, -1), SloshTank.BAD);
        Checks.due("most 7", x.walls(0, 0, -1, 7), SloshTank.BAD);
        Checks.due("most 6", x.walls(0, 0, -1, 6), 0);
        Checks.rowOf(x, 0, 0, 1, 3);
        Checks.due("the last column", x.walls(0, 0, -1, 0), SloshTank.BAD);
        Checks.rowOf(x, 0, 0, 255);
        Checks.due("border -1", x.walls(0, 0, -1, 0), SloshTank.BAD);
        Checks.rowOf(x, 0, 2);
        x.lean(9);
        Checks.due("no borders", x.walls(0, 0, -1, 6), 0);
        Checks.due("wallsPull", x.wallsPull(), 180);
        Checks.rowOf(x, 0, 2, 3);
        x.lean(0);
        Checks.due("refused", x.walls(0, 0, -1, 6), SloshTank.BAD);
        Checks.due("wallsPull stays", x.wallsPull(), 180);
        x.image();
        x.back();
        Checks.due("no image keeps it", x.wallsPull(), 180);
    }

    private static void wallsAreAsRun() {
        int[][] rows = {{1, 0, 2}, {2, 2, 1}, {0, 1, 2, 3}, {3}};
        int sets = 0;
        for (int seed = 0; seed < 6; seed++) {
            SloshTank x = seed < 3 ? loaded(seed) : onNoWay(seed);
            int[] tanks = {0, 1, 0, 2};
            for (int k = 0; k < rows.length; k++) {
                int y = seed < 3 ? -1 : k % 2;
                for (int most = 0; most <= rows[k].length; most += 2) {
                    Checks.rowOf(x, 1, 1, rows[k]);
                    String was = Checks.look(x);
                    int told = x.walls(tanks[k], 1, y, most);
                    int pull = x.wallsPull();
                    Checks.holds("nothing changes", was.substring(0, 300).equals(Checks.look(x).substring(0, 300)));
                    Checks.due("walls", told, wallsByRunning(x, tanks[k], rows[k], y, most, pull));
                    sets += told;
                }
            }
        }
        Checks.holds("some sets have walls", sets > 0);
    }

    private static int wallsByRunning(SloshTank x, int t, int[] row, int y, int most, int pull) {
        int columns = x.taken(0, t, 0);
        int[] stood = new int[columns - 1];
        for (int c = 0; c < columns - 1; c++) {
            stood[c] = x.wall(t, c, 0);
            x.wall(t, c, stood[c]);
        }
        int found = -1;
        int least = Integer.MAX_VALUE;
        x.image();
        for (int many = 0; many <= most; many++) {
            for (int set = 0; set < 1 << row.length; set++) {
                if (Integer.bitCount(set) != many) {
                    continue;
                }
                int worst = worstByWalls(x, t, row, y, set);
                if (worst < least) {
                    least = worst;
                    found = set;
                }
                for (int c = 0; c < columns - 1; c++) {
                    x.wall(t, c, stood[c]);
                }
                x.back();
            }
        }
        Checks.due("wallsPull", pull, least);
        return found;
    }

    private static int worstByWalls(SloshTank x, int t, int[] row, int y, int set) {
        for (int c : row) {
            x.wall(t, c, 0);
        }
        for (int i = 0; i < row.length; i++) {
            if ((set >> i & 1) != 0) {
                x.wall(t, row[i], 1);
            }
        }
        if (y >= 0) {
            x.go(y);
        }
        return worstByRunning(x, 60);
    }

    private static void wallsOfLikeOnes() {
        SloshTank x = new SloshTank();
        x.tank(1, 6, 30, 0);
        x.fill(0, 100);
        Checks.wayOf(x, "r60x40;");
        Checks.rowOf(x, 0, 2, 2, 2, 2);
        int one = x.walls(0, 0, 0, 3);
        Checks.due("of one border thrice the first number", one, 1);
        x.wall(0, 2, 1);
        int stands = x.beside(0, 60, 0);
        Checks.due("its worst", x.wallsPull(), stands);
        Checks.due("most 0: the told ones have none", x.walls(0, 0, 0, 0), 0);
        Checks.holds("that is worse", x.wallsPull() > stands);
        Checks.due("the wall still stands", x.wall(0, 2, 1), 1);
    }

    private static void drawOrders() {
        SloshTank x = new SloshTank();
        Checks.due("far from even without tanks", x.drawOrder(-1), 0);
        Checks.due("no tank", x.drawOrder(0), SloshTank.NONE);
        Checks.due("-2", x.drawOrder(-2), SloshTank.NONE);
        int[] places = {10, 5, -10, -5, 0};
        for (int t = 0; t < 5; t++) {
            x.tank(0, 2, 20, places[t]);
            x.fill(t, 4);
        }
        // 40, 20, -40, -20, 0: by this order the sums are 0, -20, 20, -20, 0, 0
        orderDue(x, 20, 1, 2, 0, 3, 4);
        x.fill(0, 0);
        x.fill(1, 3);
        // 0, 15, -40, -20, 0: -45 at first, -45, -5, -20, 0, 0
        orderDue(x, 45, 0, 2, 1, 3, 4);
        Checks.due("5", x.drawOrder(5), SloshTank.NONE);
        theLastOrder();
        triedAgain();
    }

    private static void theLastOrder() {
        SloshTank x = new SloshTank();
        int[] places = {-18, 42, -50, 41, -35};
        for (int t = 0; t < 5; t++) {
            x.tank(0, 2, 1, places[t]);
            x.fill(t, 1);
        }
        // -20 at first, then 15, -26, 24, -18, 0: no other order stays below 27
        orderDue(x, 26, 4, 3, 2, 1, 0);
    }

    private static void orderDue(SloshTank x, int far, int... order) {
        Checks.due("far from even", x.drawOrder(-1), far);
        for (int i = 0; i < order.length; i++) {
            Checks.due("tank " + i + " in the order", x.drawOrder(i), order[i]);
        }
    }

    private static void triedAgain() {
        int seed = 7;
        for (int k = 0; k < 40; k++) {
            SloshTank x = new SloshTank();
            for (int t = 0; t < 5; t++) {
                seed = seed * 1103515245 + 12345;
                x.tank(0, 3, 9, (seed >>> 16) % 101 - 50);
                seed = seed * 1103515245 + 12345;
                x.fill(t, (seed >>> 16) % 28);
            }
            int[] order = new int[5];
            int far = orderByTrying(x, order);
            orderDue(x, far, order);
        }
    }

    /** All orders, as numbers in base 5 from the least one on. */
    private static int orderByTrying(SloshTank x, int[] found) {
        int least = Integer.MAX_VALUE;
        for (int code = 0; code < 3125; code++) {
            int[] order = {code / 625, code / 125 % 5, code / 25 % 5, code / 5 % 5, code % 5};
            int seen = 0;
            for (int t : order) {
                seen |= 1 << t;
            }
            int far = seen == 31 ? farFromEven(x, order) : Integer.MAX_VALUE;
            if (far < least) {
                least = far;
                System.arraycopy(order, 0, found, 0, 5);
            }
        }
        return least;
    }

    private static int farFromEven(SloshTank x, int[] order) {
        int far = 0;
        for (int gone = 0; gone <= 5; gone++) {
            int sum = 0;
            for (int k = gone; k < 5; k++) {
                sum += x.tankTold(order[k], 1) * placeOf(x, order[k]);
            }
            far = Math.max(far, Math.abs(sum));
        }
        return far;
    }

    /** Told by the moment: of one more in its first column the moment grows by its place less its columns but 1. */
    private static int placeOf(SloshTank x, int t) {
        x.image();
        for (int other = 0; other < 5; other++) {
            x.fill(other, 0);
        }
        x.fill(t, 1);
        int place = x.pulls(0) + x.taken(0, t, 0) - 1;
        x.back();
        return place;
    }
}

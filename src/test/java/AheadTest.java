/** Promises 21 to 25: what would be. Each search is tried again by running like objects. */
public final class AheadTest {
    public static void main(String[] args) {
        besideRefusals();
        besideIsAsRun();
        besideOnAWay();
        worstFillRefusals();
        worstFillIsAsRun();
        wallsRefusals();
        wallsAreAsRun();
        wallsOfLikeOnes();
        drawOrders();
        Checks.end("AheadTest");
    }

    /** Makes an object anew, always the same: an object that has been run is not asked much more, as 512 calls are its end. */
    interface Maker {
        SloshTank make();
    }

    /** Four tanks of other kinds, a mouth in each of two, two ways; it is on the first one. */
    private static SloshTank loaded(int seed) {
        SloshTank x = new SloshTank();
        x.tank(seed % 6, 5, 12, -9);
        x.tank((seed + 1) % 6, 4, 9, 7);
        x.tank((seed + 3) % 6, 7, 6, 30);
        x.tank((seed + 5) % 6, 2, 20, -40);
        for (int t = 0; t < 4; t++) {
            x.fill(t, x.tankTold(t, 4) * (2 + t) / 6);
        }
        x.wall(0, 1, 1);
        x.wall(2, 4, 1);
        x.feed(0, 4);
        x.feed(1, 0);
        x.draw(0, 1);
        x.draw(1, 2);
        Checks.wayOf(x, "s2;l9x30;(3:r3x45;l4x20;)");
        Checks.wayOf(x, "r12x50;l20x50;");
        x.carrier(0, 3 + seed);
        x.lean(20 - seed);
        x.run(1);
        x.go(0);
        x.run(4);
        return x;
    }

    /** The worst pull of so many ticks, by running them. */
    private static int worstByRunning(SloshTank x, int n) {
        int worst = 0;
        for (int k = 0; k < n; k++) {
            x.run(1);
            worst = Math.max(worst, Math.abs(x.pulls(1)));
        }
        return worst;
    }

    private static void besideRefusals() {
        SloshTank x = new SloshTank();
        Checks.due("no way", x.beside(0, 0, 9), SloshTank.NONE);
        Checks.due("way -2", x.beside(-2, 0, 9), SloshTank.NONE);
        Checks.due("0 ticks", x.beside(-1, 0, 0), SloshTank.BAD);
        Checks.due("201 ticks", x.beside(-1, 201, 0), SloshTank.BAD);
        Checks.due("what -1", x.beside(-1, 1, -1), SloshTank.BAD);
        Checks.due("what 5", x.beside(-1, 1, 5), SloshTank.BAD);
        Checks.due("200 ticks", x.beside(-1, 200, 0), 0);
        x.lean(-13);
        Checks.due("1 tick", x.beside(-1, 1, 0), 260);
        x.carrier(1, 260);
        Checks.due("260 is not above 260", x.beside(-1, 9, 3), 0);
        x.carrier(1, 259);
        Checks.due("260 is above 259", x.beside(-1, 9, 3), 1);
        Checks.due("it has not tipped", x.count(6), 0);
    }

    private static void besideIsAsRun() {
        for (int seed = 0; seed < 6; seed++) {
            for (int n = 1; n <= 64; n *= 4) {
                SloshTank x = loaded(seed);
                String was = Checks.look(x);
                int[] told = new int[5];
                for (int what = 0; what < 5; what++) {
                    told[what] = x.beside(-1, n, what);
                }
                Checks.holds("nothing changes", was.equals(Checks.look(x)));
                int hits = x.count(3);
                int thrown = x.count(4);
                int drawn = x.count(5);
                int worst = worstByRunning(x, n);
                String what = "seed " + seed + ", " + n + " ticks: ";
                Checks.due(what + "worst", told[0], worst);
                Checks.due(what + "hits", told[1], x.count(3) - hits);
                Checks.due(what + "thrown", told[2], x.count(4) - thrown);
                Checks.due(what + "tips", told[3], worst > 2000 ? 1 : 0);
                Checks.due(what + "drawn", told[4], x.count(5) - drawn);
            }
        }
    }

    private static void besideOnAWay() {
        for (int seed = 0; seed < 6; seed++) {
            SloshTank x = loaded(seed);
            int again = x.beside(0, 30, 0);
            int other = x.beside(1, 30, 0);
            // The way must end before another one is begun: so the run is from an image ahead of the way.
            SloshTank y = onNoWay(seed);
            int asOther = y.beside(1, 30, 0);
            y.image();
            y.go(1);
            Checks.due("on another way", asOther, worstByRunning(y, 30));
            y.back();
            int asFirst = y.beside(0, 30, 0);
            y.go(0);
            Checks.due("on a way", asFirst, worstByRunning(y, 30));
            Checks.holds("on a way already: from its start", again != x.beside(-1, 30, 0) || other != again);
        }
        SloshTank z = new SloshTank();
        Checks.wayOf(z, "r3x10;l3x20;s1;");
        z.go(0);
        z.run(4);
        Checks.due("it goes on as now", z.beside(-1, 2, 0), 400);
        Checks.due("from its start", z.beside(0, 2, 0), 200);
        Checks.due("it ends", z.beside(0, 200, 0), 400);
        z.run(1);
        Checks.due("it is where it was", z.pulls(1), -400);
        z.run(1);
        Checks.due("the leg's last tick", z.pulls(1), -400);
        z.run(1);
        Checks.due("the last leg", z.pulls(1), 0);
    }

    private static SloshTank onNoWay(int seed) {
        SloshTank x = loaded(seed);
        x.run(60);
        for (int t = 0; t < 4; t++) {
            x.fill(t, x.tankTold(t, 4) / 2);
        }
        return x;
    }

    private static void worstFillRefusals() {
        SloshTank x = new SloshTank();
        Checks.due("no tank", x.worstFill(0, -1, 0), SloshTank.NONE);
        x.tank(0, 4, 10, 0);
        Checks.due("no way", x.worstFill(0, 0, 0), SloshTank.NONE);
        Checks.due("way -2", x.worstFill(0, -2, 0), SloshTank.NONE);
        Checks.due("by 0", x.worstFill(0, -1, 0), SloshTank.BAD);
        Checks.due("by 1201", x.worstFill(0, -1, 1201), SloshTank.BAD);
        Checks.due("by 1200", x.worstFill(0, -1, 1200), 0);
        Checks.due("by 1", x.worstFill(0, -1, 1), 2);
    }

    private static void worstFillIsAsRun() {
        for (int seed = 0; seed < 6; seed++) {
            int of = seed;
            SloshTank x = loaded(seed);
            SloshTank y = onNoWay(seed);
            String was = Checks.look(x);
            for (int t = 0; t < 4; t++) {
                Checks.due("worst fill, as now", x.worstFill(t, -1, 3), worstFillByRunning(() -> loaded(of), t, -1, 3));
                Checks.due("worst fill, on a way", y.worstFill(t, t % 2, 1), worstFillByRunning(() -> onNoWay(of), t, t % 2, 1));
            }
            Checks.holds("nothing changes", was.equals(Checks.look(x)));
        }
    }

    private static int worstFillByRunning(Maker maker, int t, int y, int by) {
        int room = maker.make().tankTold(t, 4);
        int step = Math.max(by, (room + 23) / 24);
        int found = -1;
        int greatest = -1;
        for (int all = 0; all <= room; all += step) {
            SloshTank x = maker.make();
            x.fill(t, all);
            setOut(x, y);
            int worst = worstByRunning(x, 60);
            if (worst > greatest) {
                greatest = worst;
                found = all;
            }
        }
        return found;
    }

    private static void setOut(SloshTank x, int y) {
        if (y >= 0) {
            Checks.due("go", x.go(y), y);
        }
    }

    private static void wallsRefusals() {
        SloshTank x = new SloshTank();
        Checks.due("no tank", x.walls(0, 9, 9, 9), SloshTank.NONE);
        x.tank(1, 4, 10, 0);
        Checks.due("sheet -1", x.walls(0, -1, -1, 0), SloshTank.NONE);
        Checks.due("sheet 4", x.walls(0, 4, -1, 0), SloshTank.NONE);
        Checks.due("no way, ahead of nothing there", x.walls(0, 0, 0, 9), SloshTank.NONE);
        Checks.due("way -2", x.walls(0, 0, -2, 9), SloshTank.NONE);
        Checks.due("nothing there, ahead of bad", x.walls(0, 0, -1, 9), -11);
        Checks.rowOf(x, 0, 1, 0, 0, 0, 0, 0, 0, 0);
        Checks.due("7 borders", x.walls(0, 0, -1, 1), SloshTank.BAD);
        Checks.rowOf(x, 0, 1, 0, 0, 0, 0, 0, 0);
        Checks.due("6 borders", x.walls(0, 0, -1, 1), 0);
        Checks.due("most -1", x.walls(0, 0, -1, -1), SloshTank.BAD);
        Checks.due("most 7", x.walls(0, 0, -1, 7), SloshTank.BAD);
        Checks.due("most 6", x.walls(0, 0, -1, 6), 0);
        Checks.rowOf(x, 0, 0, 1, 3);
        Checks.due("the last column", x.walls(0, 0, -1, 0), SloshTank.BAD);
        Checks.rowOf(x, 0, 0, 255);
        Checks.due("border -1", x.walls(0, 0, -1, 0), SloshTank.BAD);
        Checks.rowOf(x, 0, 2);
        x.lean(9);
        Checks.due("no borders", x.walls(0, 0, -1, 6), 0);
        Checks.due("wallsPull", x.wallsPull(), 180);
        Checks.rowOf(x, 0, 2, 3);
        x.lean(0);
        Checks.due("refused", x.walls(0, 0, -1, 6), SloshTank.BAD);
        Checks.due("wallsPull stays", x.wallsPull(), 180);
        x.image();
        x.back();
        Checks.due("no image keeps it", x.wallsPull(), 180);
    }

    private static void wallsAreAsRun() {
        int[][] rows = {{1, 0, 2}, {2, 2, 1}, {0, 1, 2, 3}, {3}};
        int[] tanks = {0, 1, 0, 2};
        int sets = 0;
        for (int seed = 0; seed < 6; seed++) {
            int of = seed;
            Maker maker = seed < 3 ? () -> loaded(of) : () -> onNoWay(of);
            for (int k = 0; k < rows.length; k++) {
                sets += wallsAreAsRun(maker, tanks[k], rows[k], seed < 3 ? -1 : k % 2);
            }
        }
        Checks.holds("some sets have walls", sets > 0);
    }

    private static int wallsAreAsRun(Maker maker, int t, int[] row, int y) {
        int sets = 0;
        for (int most = 0; most <= row.length; most += 2) {
            SloshTank x = maker.make();
            Checks.rowOf(x, 1, 1, row);
            int told = x.walls(t, 1, y, most);
            int pull = x.wallsPull();
            String was = Checks.look(x);
            Checks.due("walls", told, wallsByRunning(maker, t, row, y, most, pull));
            Checks.due("once more", x.walls(t, 1, y, most), told);
            Checks.holds("nothing changes", was.equals(Checks.look(x)));
            sets += told;
        }
        return sets;
    }

    private static int wallsByRunning(Maker maker, int t, int[] row, int y, int most, int pull) {
        int found = -1;
        int least = Integer.MAX_VALUE;
        for (int many = 0; many <= most; many++) {
            for (int set = 0; set < 1 << row.length; set++) {
                int worst = Integer.bitCount(set) == many ? worstByWalls(maker.make(), t, row, y, set) : Integer.MAX_VALUE;
                if (worst < least) {
                    least = worst;
                    found = set;
                }
            }
        }
        Checks.due("wallsPull", pull, least);
        return found;
    }

    private static int worstByWalls(SloshTank x, int t, int[] row, int y, int set) {
        for (int c : row) {
            x.wall(t, c, 0);
        }
        for (int i = 0; i < row.length; i++) {
            if ((set >> i & 1) != 0) {
                x.wall(t, row[i], 1);
            }
        }
        setOut(x, y);
        return worstByRunning(x, 60);
    }

    private static void wallsOfLikeOnes() {
        SloshTank x = new SloshTank();
        x.tank(1, 6, 30, 0);
        x.fill(0, 100);
        Checks.wayOf(x, "r60x40;");
        Checks.rowOf(x, 0, 2, 2, 2, 2);
        int one = x.walls(0, 0, 0, 3);
        Checks.due("of one border thrice the first number", one, 1);
        x.wall(0, 2, 1);
        int stands = x.beside(0, 60, 0);
        Checks.due("its worst", x.wallsPull(), stands);
        Checks.due("most 0: the told ones have none", x.walls(0, 0, 0, 0), 0);
        Checks.holds("that is worse", x.wallsPull() > stands);
        Checks.due("the wall still stands", x.wall(0, 2, 1), 1);
    }

    private static void drawOrders() {
        SloshTank x = new SloshTank();
        Checks.due("far from even without tanks", x.drawOrder(-1), 0);
        Checks.due("no tank", x.drawOrder(0), SloshTank.NONE);
        Checks.due("-2", x.drawOrder(-2), SloshTank.NONE);
        int[] places = {10, 5, -10, -5, 0};
        for (int t = 0; t < 5; t++) {
            x.tank(0, 2, 20, places[t]);
            x.fill(t, 4);
        }
        // 40, 20, -40, -20, 0: by this order the sums are 0, -20, 20, -20, 0, 0
        orderDue(x, 20, 1, 2, 0, 3, 4);
        x.fill(0, 0);
        x.fill(1, 3);
        // 0, 15, -40, -20, 0: -45 at first, -45, -5, -20, 0, 0
        orderDue(x, 45, 0, 2, 1, 3, 4);
        Checks.due("5", x.drawOrder(5), SloshTank.NONE);
        triedAgain();
    }

    private static void orderDue(SloshTank x, int far, int... order) {
        Checks.due("far from even", x.drawOrder(-1), far);
        for (int i = 0; i < order.length; i++) {
            Checks.due("tank " + i + " in the order", x.drawOrder(i), order[i]);
        }
    }

    private static void triedAgain() {
        int seed = 7;
        for (int k = 0; k < 40; k++) {
            SloshTank x = new SloshTank();
            int[] loads = new int[5];
            for (int t = 0; t < 5; t++) {
                seed = seed * 1103515245 + 12345;
                int place = (seed >>> 16) % 101 - 50;
                seed = seed * 1103515245 + 12345;
                int all = (seed >>> 16) % 28;
                x.tank(0, 3, 9, place);
                x.fill(t, all);
                loads[t] = place * all;
            }
            int[] order = new int[5];
            int far = orderByTrying(loads, order);
            orderDue(x, far, order);
        }
    }

    /** All orders, as numbers in base 5 from the least one on. */
    private static int orderByTrying(int[] loads, int[] found) {
        int least = Integer.MAX_VALUE;
        for (int code = 0; code < 3125; code++) {
            int[] order = {code / 625, code / 125 % 5, code / 25 % 5, code / 5 % 5, code % 5};
            int seen = 0;
            for (int t : order) {
                seen |= 1 << t;
            }
            int far = seen == 31 ? farFromEven(loads, order) : Integer.MAX_VALUE;
            if (far < least) {
                least = far;
                System.arraycopy(order, 0, found, 0, 5);
            }
        }
        return least;
    }

    private static int farFromEven(int[] loads, int[] order) {
        int far = 0;
        for (int gone = 0; gone <= 5; gone++) {
            int sum = 0;
            for (int k = gone; k < 5; k++) {
                sum += loads[order[k]];
            }
            far = Math.max(far, Math.abs(sum));
        }
        return far;
    }
}

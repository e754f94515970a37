/**
 * Objects that have something of everything, all that shows of one, and what is asked of a refusal:
 * that of two like objects the one that refused a call shows the same as the one that never was asked.
 */
final class Scenes {
    /** The ends of what an int can be: sums and products of them wrap around. */
    static final int[] FAR = {Integer.MIN_VALUE, Integer.MIN_VALUE + 1, Integer.MAX_VALUE - 1, Integer.MAX_VALUE};

    private static final int[] SORTS = {0, 1, 2};

    interface Call {
        long on(SloshTank x);
    }

    interface CallOf {
        long on(SloshTank x, int v);
    }

    private Scenes() {
    }

    /** Something of everything, with room for more: it is on way 0, and there is an image. */
    static SloshTank some() {
        SloshTank x = new SloshTank();
        x.tank(1, 3, 5, -7);
        x.tank(5, 2, 4, 9);
        x.fill(0, 8);
        x.fill(1, 5);
        x.wall(0, 1, 1);
        x.feed(0, 0);
        x.feed(1, 1);
        x.draw(0, 1);
        x.draw(1, 3);
        x.carrier(0, 12);
        x.carrier(1, 450);
        Checks.wayOf(x, "l5x20;r2x31;");
        Checks.wayOf(x, "(2:s1;)");
        x.go(0);
        x.run(2);
        x.image();
        x.run(2);
        x.lean(4);
        x.draw(0, 2);
        Checks.rowOf(x, 0, 0, 0, 1);
        Checks.rowOf(x, 1, 1, 3, 4, 6, -20, 2);
        Checks.rowOf(x, 2, 2, 2, 5, 7, 30);
        x.record(0, 1, -1, 0);
        x.record(1, 0, 1, 1);
        x.bar(1, 1);
        x.walls(0, 0, -1, 2);
        Checks.tellText(x, "r7x8;");
        return x;
    }

    /** As much of everything as there is room for, up to the last tick; it has just been set on way 5. */
    static SloshTank full() {
        SloshTank x = new SloshTank();
        for (int t = 0; t < 5; t++) {
            x.tank(t, 2, 6, 9 * t - 20);
            x.fill(t, 3 + 2 * t);
            x.wall(t, 0, t & 1);
        }
        for (int f = 0; f < 6; f++) {
            x.feed(f % 5, f % 2);
            x.draw(f, f % 2);
        }
        for (int y = 0; y < 6; y++) {
            Checks.wayOf(x, "l" + y + "x9;");
        }
        x.sheet(0, 0, 24);
        for (int r = 0; r < 8; r++) {
            x.record(r % 5, 1, r % 6, 0);
        }
        x.bar(7, 1);
        x.image();
        for (int k = 0; k < 100; k++) {
            x.run(200);
        }
        for (int s = 0; s < 4; s++) {
            x.sheet(s, s % 3, 40);
        }
        for (int k = 0; k < 15; k++) {
            x.tell(0x2830_3A29_2830_3A29L, 8);
        }
        x.go(5);
        return x;
    }

    /** All that shows of an object, which is used up by it: some 300 calls. */
    static String seen(SloshTank x) {
        StringBuilder all = new StringBuilder();
        told(x, all);
        ahead(x, all);
        host(x, all);
        setAnew(x, all);
        onwards(x, all);
        Checks.line(all, "back", x.back());
        told(x, all);
        return all.toString();
    }

    private static void told(SloshTank x, StringBuilder all) {
        for (int what = 0; what <= 9; what++) {
            Checks.line(all, "count " + what, x.count(what));
        }
        for (int t = 0, tanks = x.count(1); t < tanks; t++) {
            for (int what = 0; what <= 4; what++) {
                Checks.line(all, "tankTold " + what, x.tankTold(t, what));
            }
            int columns = x.taken(0, t, 0);
            for (int c = 0; c < columns; c++) {
                Checks.line(all, "level " + c, x.level(t, c));
            }
            for (int c = 0; c < columns - 1; c++) {
                Checks.line(all, "flow " + c, x.flow(t, c));
            }
        }
        for (int f = 0, mouths = x.count(2); f < mouths; f++) {
            for (int what = 0; what <= 4; what++) {
                Checks.line(all, "feedTold " + what, x.feedTold(f, what));
            }
        }
        Checks.line(all, "pulls 0", x.pulls(0));
        Checks.line(all, "pulls 1", x.pulls(1));
    }

    private static void ahead(SloshTank x, StringBuilder all) {
        Checks.line(all, "wallsPull", x.wallsPull());
        Checks.line(all, "drawOrder", x.drawOrder(-1));
        Checks.line(all, "beside", x.beside(-1, 9, 0));
        for (int y = 0, ways = x.count(7); y < ways; y++) {
            int legs = x.wayTold(y, 0, 0);
            Checks.line(all, "legs of " + y, legs);
            for (int leg = 0; leg < legs; leg++) {
                Checks.line(all, "ticks", x.wayTold(y, leg, 1));
                Checks.line(all, "lean", x.wayTold(y, leg, 2));
            }
        }
        fitting(x, all);
        for (int r = 0, records = x.count(9); r < records; r++) {
            Checks.line(all, "levels of " + r, x.taken(2, r, 7));
            Checks.line(all, "bar " + r, x.bar(r, 0));
        }
        fitting(x, all);
    }

    private static void fitting(SloshTank x, StringBuilder all) {
        for (int t = 0, tanks = x.count(1); t < tanks; t++) {
            Checks.line(all, "fits " + t, x.fits(t, 1, 1, 0));
        }
    }

    /** What sort and size sheets have; their numbers, as far as tanks come by them. */
    private static void host(SloshTank x, StringBuilder all) {
        for (int s = 0; s < 4; s++) {
            for (int sort : SORTS) {
                Checks.line(all, "tanks by " + s, x.tanks(s, sort, 0, 0));
            }
            int size = 0;
            for (int step = 32; step > 0; step /= 2) {
                size += x.copy(s, 0, s, 0, size + step) == size + step ? step : 0;
            }
            Checks.line(all, "size of " + s, size);
            for (int sort : SORTS) {
                Checks.line(all, "tank by " + s, x.tanks(s, sort, 0, 1));
            }
        }
        for (int t = 2, tanks = x.count(1); t < tanks; t++) {
            x.fill(t, 1);
        }
    }

    private static void setAnew(SloshTank x, StringBuilder all) {
        for (int t = 0, tanks = x.count(1); t < tanks; t++) {
            int columns = x.taken(0, t, 0);
            for (int c = 0; c < columns - 1; c++) {
                Checks.line(all, "wall " + t, x.wall(t, c, 0));
            }
        }
        Checks.line(all, "heavy", x.carrier(0, 10));
        Checks.line(all, "grip", x.carrier(1, 2000));
        Checks.line(all, "lean", x.lean(0));
    }

    private static void onwards(SloshTank x, StringBuilder all) {
        Checks.line(all, "go", x.go(0));
        for (int k = 0; k < 6; k++) {
            Checks.line(all, "run", x.run(1));
            Checks.line(all, "pull", x.pulls(1));
        }
        int y = x.way();
        Checks.line(all, "way", y);
        Checks.line(all, "a leg of it", x.wayTold(y, 0, 1));
        Checks.line(all, "a lean of it", x.wayTold(y, 0, 2));
    }

    /** A call on an object that has room: it answers so and changes nothing. */
    static void refused(String what, long want, Call call) {
        unchanged(what, want, call, some(), some());
    }

    /** The same for each of some numbers. */
    static void refusedEach(String what, long want, CallOf call, int... numbers) {
        for (int v : numbers) {
            refused(what + " " + v, want, x -> call.on(x, v));
        }
    }

    /** A call on an object that has no room. */
    static void refusedWhenFull(String what, long want, Call call) {
        unchanged(what, want, call, full(), full());
    }

    /** A call of which the answer does not matter here. */
    static void changesNothing(String what, Call call) {
        SloshTank asked = some();
        call.on(asked);
        Checks.same(what + " changes nothing", seen(asked), seen(some()));
    }

    private static void unchanged(String what, long want, Call call, SloshTank asked, SloshTank other) {
        Checks.due(what, call.on(asked), want);
        Checks.same(what + " changes nothing", seen(asked), seen(other));
    }
}

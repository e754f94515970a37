import java.util.function.LongSupplier;

/** Calls by turns that look wild but are always the same: none may throw, and a refusal changes nothing. */
public final class HammerTest {
    private static final int[] WILD = {
        Integer.MIN_VALUE, Integer.MIN_VALUE + 1, -1000000, -129, -51, -50, -14, -5, -2, -1, 0, 1, 2, 3, 4, 5, 6, 7, 11, 12, 13,
        23, 24, 25, 39, 40, 41, 49, 50, 51, 99, 100, 101, 120, 127, 128, 199, 200, 201, 255, 256, 1187, 1188, 1189, 1200, 1201,
        19999, 20000, 32767, 32768, 65535, 65536, 99999, 100000, 100001, Integer.MAX_VALUE - 3, Integer.MAX_VALUE
    };
    private static final String SIGNS = "slrx;():0123456789";

    private static final int CALLS_OF_A_WAY = 5;
    private static final int CALLS_OF_A_BALANCE = 100;

    private long seed;

    private HammerTest(long seed) {
        this.seed = seed;
    }

    public static void main(String[] args) {
        for (int k = 0; k < 250; k++) {
            new HammerTest(k * 7919L + 1).hammer();
        }
        for (int k = 0; k < 3000; k++) {
            new HammerTest(k * 104729L + 3).refusal(20 + k % 60);
        }
        emptyObject();
        Checks.end("HammerTest");
    }

    private int next(int below) {
        seed = seed * 6364136223846793005L + 1442695040888963407L;
        return (int) ((seed >>> 33) % below);
    }

    /** Mostly a small number, so that calls come through; now and then a wild one. */
    private int arg(int below) {
        return next(8) == 0 ? WILD[next(WILD.length)] : next(below);
    }

    /** As many calls as an object is used for, with those that look at it in the end. */
    private void hammer() {
        SloshTank x = new SloshTank();
        int left = 512 - CALLS_OF_A_BALANCE;
        while (left >= CALLS_OF_A_WAY) {
            int call = next(33);
            left -= call == 11 ? CALLS_OF_A_WAY : 1;
            quiet("call " + call, () -> call(x, call));
        }
        balanced(x);
    }

    /** Some calls, then one more: if it is a refusal, all that shows is as it was. */
    private void refusal(int calls) {
        SloshTank x = new SloshTank();
        for (int n = 0; n < calls; n++) {
            call(x, next(33));
        }
        String was = Checks.look(x);
        int call = next(33);
        long answer = call(x, call);
        if (answer < 0 && !mayChange(call)) {
            Checks.same("a refusal of call " + call + " changes nothing", Checks.look(x), was);
        }
    }

    /** A lean below 0 is no refusal; a fault empties the tape; tanks come ahead of a place outside. */
    private static boolean mayChange(int call) {
        return call == 1 || call == 9 || call == 11 || call == 30;
    }

    /** Of each tank what was put in is there, or out; and what is out was drawn or thrown. */
    private static void balanced(SloshTank x) {
        int out = 0;
        for (int t = 0, tanks = x.count(1); t < tanks; t++) {
            int outOfIt = x.tankTold(t, 3);
            Checks.due("in and out", x.tankTold(t, 1) + outOfIt, x.tankTold(t, 2));
            out += outOfIt;
            int columns = x.taken(0, t, 0);
            int high = x.tankTold(t, 4) / columns;
            for (int c = 0; c < columns; c++) {
                int level = x.level(t, c);
                Checks.holds("a level", level >= 0 && level <= high);
            }
        }
        Checks.due("drawn and thrown", x.count(4) + x.count(5), out);
    }

    private long call(SloshTank x, int call) {
        switch (call) {
            case 0: return x.tank(arg(6), 2 + arg(11), 1 + arg(30), arg(60) - 30);
            case 1: return x.lean(arg(80) - 40);
            case 2: return x.wall(arg(5), arg(6), arg(2));
            case 3: return x.fill(arg(5), arg(120));
            case 4: return x.feed(arg(5), arg(6));
            case 5: return x.draw(arg(6), arg(9));
            case 6: return x.carrier(arg(2), arg(50));
            case 7: return x.run(arg(30));
            case 8: return x.tell(text(), arg(9));
            case 9: return x.way();
            case 10: return x.wayTold(arg(6), arg(5), arg(3));
            case 11: return Checks.wayOf(x, next(2) == 0 ? "s3;l2x20;(2:r4x30;)" : "r9x40;");
            case 12: return x.go(arg(6));
            case 13: return x.level(arg(5), arg(12));
            case 14: return x.flow(arg(5), arg(12));
            case 15: return x.tankTold(arg(5), arg(5));
            case 16: return x.kindTold(arg(6), arg(4), arg(50));
            case 17: return x.feedTold(arg(6), arg(5));
            case 18: return x.pulls(arg(2)) & 1;
            case 19: return x.count(arg(10));
            case 20: return x.beside(arg(5) - 1, arg(40), arg(5));
            case 21: return x.worstFill(arg(5), arg(5) - 1, arg(90));
            case 22: return x.walls(arg(5), arg(4), arg(3) - 1, arg(4));
            case 23: return x.wallsPull();
            default: return call2(x, call);
        }
    }

    private long call2(SloshTank x, int call) {
        switch (call) {
            case 24: return x.drawOrder(arg(6) - 1);
            case 25: return x.record(arg(5), arg(5), arg(4) - 1, arg(4));
            case 26: return x.bar(arg(8), arg(2));
            case 27: return x.fits(arg(5), arg(90), arg(20), arg(3));
            case 28: return next(2) == 0 ? x.image() : x.back();
            case 29: return x.sheet(arg(4), arg(4) - 1, arg(14));
            case 30: return x.tanks(arg(4), arg(3), arg(9), arg(4));
            case 31: return next(2) == 0 ? x.cell(arg(4), arg(9), arg(9)) : x.copy(arg(4), arg(9), arg(4), arg(9), arg(5));
            default: return x.taken(arg(3), arg(6), arg(8));
        }
    }

    private long text() {
        long w = 0;
        for (int k = 0; k < 8; k++) {
            w = w << 8 | SIGNS.charAt(next(SIGNS.length()));
        }
        return next(9) == 0 ? seed : w;
    }

    /** Each call with each two wild numbers on an object that has nothing. */
    private static void emptyObject() {
        for (int v : WILD) {
            for (int w : WILD) {
                SloshTank x = new SloshTank();
                quiet("wall", () -> x.wall(v, w, 0));
                quiet("fill", () -> x.fill(v, w));
                quiet("feed", () -> x.feed(v, w));
                quiet("draw", () -> x.draw(v, w));
                quiet("level", () -> x.level(v, w));
                quiet("flow", () -> x.flow(v, w));
                quiet("tankTold", () -> x.tankTold(v, w));
                quiet("feedTold", () -> x.feedTold(v, w));
                quiet("wayTold", () -> x.wayTold(v, w, 1));
                quiet("bar", () -> x.bar(v, w));
                quiet("cell", () -> x.cell(v, w, w));
                quiet("taken", () -> x.taken(1, v, w));
                quiet("walls", () -> x.walls(v, w, -1, 0));
                quiet("beside", () -> x.beside(v, w, 0));
                quiet("kindTold", () -> x.kindTold(v, 0, w));
                quiet("drawOrder", () -> x.drawOrder(v));
                quiet("count", () -> x.count(v));
                quiet("pulls", () -> x.pulls(v));
                quiet("go", () -> x.go(v));
                Checks.due("nothing came", x.count(1) + x.count(2) + x.count(7) + x.count(9), 0);
            }
        }
    }

    private static void quiet(String what, LongSupplier call) {
        try {
            call.getAsLong();
        } catch (RuntimeException thrown) {
            Checks.holds(what + " threw " + thrown, false);
        }
    }
}

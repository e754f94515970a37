/** Promises 29 and 30: an image, and the way back to it. */
public final class ImageTest {
    public static void main(String[] args) {
        refusal();
        keeps();
        keepsNothingElse();
        newcomers();
        keepsTheWay();
        again();
        Checks.end("ImageTest");
    }

    private static void refusal() {
        SloshTank x = new SloshTank();
        Checks.due("no image", x.back(), SloshTank.STATE);
        Checks.due("an image", x.image(), 0);
        Checks.due("back", x.back(), 0);
        Checks.due("it stays", x.back(), 0);
    }

    private static SloshTank loaded() {
        SloshTank x = new SloshTank();
        x.tank(0, 4, 5, 9);
        x.tank(5, 3, 4, -7);
        x.fill(0, 15);
        x.fill(1, 9);
        x.feed(0, 0);
        x.feed(1, 2);
        x.draw(0, 2);
        x.draw(1, 3);
        Checks.wayOf(x, "r2x30;l5x40;s2;r9x11;");
        return x;
    }

    private static void keeps() {
        SloshTank x = loaded();
        x.go(0);
        x.run(4);
        String was = Checks.look(x);
        int first = x.feedTold(1, 4);
        Checks.due("image", x.image(), 4);
        x.run(30);
        x.draw(0, 9);
        x.lean(-3);
        x.fill(0, 3);
        x.carrier(1, 0);
        x.run(5);
        Checks.due("tipped", x.count(6), 1);
        x.carrier(1, 2000);
        Checks.holds("all is otherwise", !was.equals(Checks.look(x)));
        Checks.due("back", x.back(), 4);
        Checks.holds("all is as it was", was.equals(Checks.look(x)));
        Checks.due("the first tick of a gulp", x.feedTold(1, 4), first);
        Checks.due("not tipped", x.count(6), 0);
        x.run(30);
        Checks.due("tick", x.count(0), 34);
    }

    private static void keepsNothingElse() {
        SloshTank x = loaded();
        x.image();
        x.carrier(0, 31);
        x.carrier(1, 32);
        x.wall(0, 1, 1);
        Checks.wayOf(x, "s1;");
        Checks.tellText(x, "abc");
        Checks.rowOf(x, 0, 2, 1, 2);
        x.record(0, 0, 1, 0);
        x.bar(0, 1);
        Checks.due("walls", x.walls(0, 0, 0, 0), 0);
        int pull = x.wallsPull();
        x.back();
        Checks.due("heavy", x.carrier(0, 10), 31);
        Checks.due("grip", x.carrier(1, 10), 32);
        Checks.due("a wall", x.wall(0, 1, 0), 1);
        Checks.due("ways", x.count(7), 2);
        Checks.due("the tape", x.count(8), 3);
        Checks.due("a record", x.count(9), 1);
        Checks.due("a bar", x.bar(0, 0), 1);
        Checks.due("a sheet", x.cell(0, 1, 1), 1);
        Checks.due("wallsPull", x.wallsPull(), pull);
        Checks.holds("wallsPull is something", pull > 0);
    }

    private static void newcomers() {
        SloshTank x = loaded();
        x.image();
        x.tank(4, 2, 3, 50);
        x.fill(2, 5);
        x.feed(2, 1);
        x.draw(2, 9);
        x.lean(50);
        x.run(9);
        Checks.due("gulped", x.feedTold(2, 4), 0);
        x.back();
        Checks.due("the tank stays", x.count(1), 3);
        Checks.due("the mouth stays", x.count(2), 3);
        int[] tank = {4, 0, 0, 0, 6};
        int[] mouth = {2, 1, 0, 0, -1};
        for (int what = 0; what < 5; what++) {
            Checks.due("the tank is empty " + what, x.tankTold(2, what), tank[what]);
            Checks.due("the mouth draws nothing " + what, x.feedTold(2, what), mouth[what]);
        }
        Checks.levelsDue(x, 2, 0, 0);
        Checks.flowsDue(x, 2, 0);
        Checks.due("the others are there", x.tankTold(0, 1), 15);
        Checks.due("they draw", x.feedTold(1, 2), 3);
    }

    private static void keepsTheWay() {
        SloshTank x = loaded();
        x.image();
        x.go(0);
        x.run(1);
        x.back();
        Checks.due("on no way", x.go(0), 0);
        x.run(3);
        x.image();
        int[] leans = new int[30];
        for (int k = 0; k < 30; k++) {
            x.run(1);
            leans[k] = x.pulls(1);
        }
        Checks.due("it has ended", x.go(0), 0);
        x.back();
        Checks.due("on a way", x.go(0), SloshTank.STATE);
        for (int k = 0; k < 30; k++) {
            x.run(1);
            Checks.due("the same again", x.pulls(1), leans[k]);
        }
    }

    private static void again() {
        SloshTank x = loaded();
        x.image();
        x.run(2);
        Checks.due("another image", x.image(), 2);
        String was = Checks.look(x);
        x.run(7);
        Checks.due("back to the later one", x.back(), 2);
        Checks.holds("all is as it was", was.equals(Checks.look(x)));
        x.run(7);
        Checks.due("once more", x.back(), 2);
        Checks.holds("all is as it was", was.equals(Checks.look(x)));
    }
}

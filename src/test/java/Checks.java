/** What all tests use: counting of wrong answers, and short ways to set an object up. */
final class Checks {
    private static int checked;
    private static int wrong;

    private Checks() {
    }

    static void due(String what, long got, long want) {
        checked++;
        if (got != want) {
            wrong++;
            System.out.println(what + " answered " + got + ", due is " + want);
        }
    }

    static void holds(String what, boolean is) {
        due(what, is ? 1 : 0, 1);
    }

    /** To be called last: the exit code tells whether all was as due. */
    static void end(String test) {
        System.out.println(test + ": " + (checked - wrong) + " of " + checked + " answers are as due");
        if (wrong != 0 || checked == 0) {
            System.exit(1);
        }
    }

    /** Puts a text on the tape, up to eight bytes a call. */
    static int tellText(SloshTank x, String text) {
        int has = x.count(8);
        for (int at = 0; at < text.length(); at += 8) {
            String part = text.substring(at, Math.min(at + 8, text.length()));
            long w = 0;
            for (int k = 0; k < part.length(); k++) {
                w = w << 8 | part.charAt(k);
            }
            has = x.tell(w, part.length());
        }
        return has;
    }

    static int wayOf(SloshTank x, String text) {
        tellText(x, text);
        return x.way();
    }

    static void rowOf(SloshTank x, int s, int sort, int... numbers) {
        due("sheet", x.sheet(s, sort, numbers.length), 1);
        for (int i = 0; i < numbers.length; i++) {
            due("cell", x.cell(s, i, numbers[i]), 1);
        }
    }

    static void levelsDue(SloshTank x, int t, int... want) {
        for (int c = 0; c < want.length; c++) {
            due("level(" + t + ", " + c + ")", x.level(t, c), want[c]);
        }
    }

    static void flowsDue(SloshTank x, int t, int... want) {
        for (int c = 0; c < want.length; c++) {
            due("flow(" + t + ", " + c + ")", x.flow(t, c), want[c]);
        }
    }

    /** All that can be looked at without changing anything, as one text. */
    static String look(SloshTank x) {
        StringBuilder seen = new StringBuilder();
        for (int what = 0; what <= 9; what++) {
            seen.append(x.count(what)).append(' ');
        }
        for (int t = 0; t < 5; t++) {
            for (int what = 0; what <= 4; what++) {
                seen.append(x.tankTold(t, what)).append(' ');
            }
            for (int c = 0; c < 12; c++) {
                seen.append(x.level(t, c)).append(' ').append(x.flow(t, c)).append(' ');
            }
        }
        for (int f = 0; f < 6; f++) {
            for (int what = 0; what <= 4; what++) {
                seen.append(x.feedTold(f, what)).append(' ');
            }
        }
        for (int y = 0; y < 6; y++) {
            int legs = x.wayTold(y, 0, 0);
            seen.append(legs).append(' ');
            for (int leg = 0; leg < legs; leg++) {
                seen.append(x.wayTold(y, leg, 1)).append(' ').append(x.wayTold(y, leg, 2)).append(' ');
            }
        }
        for (int r = 0; r < 8; r++) {
            seen.append(x.taken(2, r, 7)).append(' ');
        }
        seen.append(x.pulls(0)).append(' ').append(x.pulls(1)).append(' ').append(x.wallsPull());
        return seen.append(' ').append(x.beside(-1, 30, 0)).append(' ').append(x.beside(-1, 30, 3)).toString();
    }
}

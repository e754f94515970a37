/** What all tests use: counting of wrong answers, and short ways to set an object up. */
final class Checks {
    private static int checked;
    private static int wrong;

    private Checks() {
    }

    static void due(String what, long got, long want) {
        checked++;
        if (got != want) {
            wrong++;
            System.out.println(what + " answered " + got + ", due is " + want);
        }
    }

    static void holds(String what, boolean is) {
        due(what, is ? 1 : 0, 1);
    }

    /** Two texts of lines: of unlike ones the first line that differs is told. */
    static void same(String what, String got, String want) {
        String[] gotLines = got.split("\n");
        String[] wantLines = want.split("\n");
        int at = 0;
        while (at < gotLines.length && at < wantLines.length && gotLines[at].equals(wantLines[at])) {
            at++;
        }
        String differs = at < gotLines.length ? ": line " + at + " is " + gotLines[at] : "";
        due(what + (got.equals(want) ? "" : differs), got.equals(want) ? 1 : 0, 1);
    }

    /** To be called last: the exit code tells whether all was as due. */
    static void end(String test) {
        System.out.println(test + ": " + (checked - wrong) + " of " + checked + " answers are as due");
        if (wrong != 0 || checked == 0) {
            System.exit(1);
        }
    }

    /** Puts a text on the tape, up to eight bytes a call. */
    static int tellText(SloshTank x, String text) {
        int has = x.count(8);
        for (int at = 0; at < text.length(); at += 8) {
            String part = text.substring(at, Math.min(at + 8, text.length()));
            long w = 0;
            for (int k = 0; k < part.length(); k++) {
                w = w << 8 | part.charAt(k);
            }
            has = x.tell(w, part.length());
        }
        return has;
    }

    static int wayOf(SloshTank x, String text) {
        tellText(x, text);
        return x.way();
    }

    static void rowOf(SloshTank x, int s, int sort, int... numbers) {
        due("sheet", x.sheet(s, sort, numbers.length), 1);
        for (int i = 0; i < numbers.length; i++) {
            due("cell", x.cell(s, i, numbers[i]), 1);
        }
    }

    static void levelsDue(SloshTank x, int t, int... want) {
        for (int c = 0; c < want.length; c++) {
            due("level(" + t + ", " + c + ")", x.level(t, c), want[c]);
        }
    }

    static void flowsDue(SloshTank x, int t, int... want) {
        for (int c = 0; c < want.length; c++) {
            due("flow(" + t + ", " + c + ")", x.flow(t, c), want[c]);
        }
    }

    /** All that can be looked at without changing anything, as one text of lines: some hundred calls. */
    static String look(SloshTank x) {
        StringBuilder seen = new StringBuilder();
        for (int what = 0; what <= 9; what++) {
            line(seen, "count", x.count(what));
        }
        for (int t = 0, tanks = x.count(1); t < tanks; t++) {
            for (int what = 0; what <= 4; what++) {
                line(seen, "tankTold", x.tankTold(t, what));
            }
            for (int c = 0, columns = x.taken(0, t, 0); c < columns; c++) {
                line(seen, "level", x.level(t, c));
                line(seen, "flow", x.flow(t, c));
            }
        }
        for (int f = 0, mouths = x.count(2); f < mouths; f++) {
            for (int what = 0; what <= 4; what++) {
                line(seen, "feedTold", x.feedTold(f, what));
            }
        }
        lookAhead(x, seen);
        return seen.toString();
    }

    private static void lookAhead(SloshTank x, StringBuilder seen) {
        for (int y = 0, ways = x.count(7); y < ways; y++) {
            line(seen, "legs", x.wayTold(y, 0, 0));
        }
        for (int r = 0, records = x.count(9); r < records; r++) {
            line(seen, "levels", x.taken(2, r, 7));
        }
        line(seen, "moment", x.pulls(0));
        line(seen, "pull", x.pulls(1));
        line(seen, "wallsPull", x.wallsPull());
        line(seen, "beside", x.beside(-1, 30, 0));
        line(seen, "above GRIP", x.beside(-1, 30, 3));
    }

    static void line(StringBuilder all, String what, long answer) {
        all.append(what).append(' ').append(answer).append('\n');
    }
}

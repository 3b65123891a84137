/** What the tests that are reckoned by hand share: answers are counted, and an object is made ready in few words. */
abstract class Calls {
    static final int NONE = -1, BAD = -2, STATE = -3, FULL = -4;
    static final int MISSING = -11, OUTSIDE = -12, OTHER = -13, BELOW_0 = -14;
    static final long NO = -4611686018427387904L;
    static final int LEAST = Integer.MIN_VALUE, MOST = Integer.MAX_VALUE;

    /** 2147483648 by 32 bits: the least int. */
    static final String LEAST_INT = "(2048*1024*1024)";

    private static String sentence = "";
    private static int answers = 0;
    private static int wrong = 0;

    /** The sentence of the document that the next answers are due by. */
    static void says(String told) {
        sentence = told;
    }

    static void due(String call, long got, long want) {
        answers++;
        if (got != want) {
            wrong++;
            System.out.println(sentence + "\n    " + call + " answered " + got + ", due is " + want);
        }
    }

    static void end() {
        System.out.println(answers + " answers, " + wrong + " not as due");
        if (wrong != 0) {
            System.exit(1);
        }
    }

    /** As few calls as can be: an object is used for 512. */
    static int feed(LanesTurn x, String tape) {
        int has = 0;
        for (int from = 0; from < tape.length(); from += 8) {
            int n = Math.min(8, tape.length() - from);
            long bytes = 0;
            for (int i = n - 1; i >= 0; i--) {
                bytes = bytes << 8 | tape.charAt(from + i);
            }
            has = x.feed(n, bytes);
        }
        return has;
    }

    static int text(LanesTurn x, String tape) {
        feed(x, tape);
        return x.text();
    }

    /** A TEXT is read and becomes THE RULE (x keeps to 5 of them). */
    static LanesTurn rule(LanesTurn x, String tape) {
        int number = text(x, tape);
        due("force() of " + tape, x.force(number) >= 0 ? 1 : 0, 1);
        return x;
    }

    static void row(LanesTurn x, int sheet, int sort, int... items) {
        due("sheet", x.sheet(sheet, sort, items.length), 1);
        for (int i = 0; i < items.length; i++) {
            due("cell", x.cell(sheet, i, items[i]), 1);
        }
    }

    /** By SHEET 3, which is missing then. */
    static void come(LanesTurn x, int way, int... many) {
        row(x, 3, 1, many);
        due("come", x.come(way, 3), many.length);
        x.sheet(3, -1, 0);
    }

    /** An object with LANES, each by its KIND, NUMBER and WAY. */
    static LanesTurn with(int... lanes) {
        LanesTurn x = new LanesTurn();
        for (int i = 0; i + 2 < lanes.length; i += 3) {
            due("lane", x.lane(lanes[i], lanes[i + 1], lanes[i + 2]), i / 3);
        }
        return x;
    }

    /** LANES as of with(), and THE RULE of three E. */
    static LanesTurn ruled(String turn, String pain, String more, int... lanes) {
        return rule(with(lanes), "turn " + turn + ";pain " + pain + ";more " + more + ";");
    }

    static void comers(LanesTurn x, int way, int minute, int many, int buses) {
        due("COMERS", x.set(0, 10 * minute + way, many) >= 0 ? 1 : 0, 1);
        due("BUSES", x.set(1, 10 * minute + way, buses) >= 0 ? 1 : 0, 1);
    }
}

import java.util.Arrays;

/**
 * "Refusals, the first that the call's words name; they change nothing": every refused call with its answer on either
 * side of what is taken, which refusal comes ahead of which, and that all that can be asked stays as it was. For the
 * last, two objects are made alike, one is called, and both are asked the same.
 */
public final class LanesTurnRefusals extends Calls {
    private interface Made {
        LanesTurn ready();
    }

    private interface Call {
        long on(LanesTurn x, int[] a);
    }

    private static Made made;
    private static long[] untouched;

    private static void on(Made object) {
        made = object;
        untouched = new Look(object.ready()).all();
    }

    private static void refused(String name, long want, Call call, int[]... all) {
        for (int[] a : all) {
            LanesTurn x = made.ready();
            String told = name + Arrays.toString(a);
            due(told, call.on(x, a), want);
            due(told + ": the first look at it that is changed", Arrays.mismatch(untouched, new Look(x).all()), -1);
        }
    }

    /** What is taken must be seen, else a look that sees nothing would pass for one that finds nothing changed. */
    private static void taken(String name, long want, Call call, int[]... all) {
        for (int[] a : all) {
            LanesTurn x = made.ready();
            String told = name + Arrays.toString(a);
            due(told, call.on(x, a), want);
            due(told + " is seen", Arrays.equals(untouched, new Look(x).all()) ? 0 : 1, 1);
        }
    }

    private static int[] of(int... a) {
        return a;
    }

    /** All that can be asked of an object, from what changes nothing to what lays all bare by changing it. */
    private static final class Look {
        private final LanesTurn x;
        private final long[] seen = new long[400];
        private int many;

        Look(LanesTurn x) {
            this.x = x;
        }

        private void see(long answer) {
            seen[many++] = answer;
        }

        long[] all() {
            lanesAndCounts();
            days();
            texts();
            comersAndBuses();
            sheets();
            tapeAndImage();
            return Arrays.copyOf(seen, many);
        }

        private void lanesAndCounts() {
            for (int i = 0; i < 8; i++) {
                see(x.count(i));
                for (int what = 0; what < 3; what++) {
                    see(x.told(i, what, 0));
                }
            }
        }

        private void days() {
            for (int by = -1; by <= 4; by++) {
                see(x.waited(60, by));
                see(x.judge(by));
            }
            for (int what = 0; what < 5; what++) {
                see(x.day(7, -1, what));
                see(x.day(7, 4, what));
            }
        }

        private void texts() {
            for (int text = 0; text < 6; text++) {
                see(x.force(text));
                see(x.waited(60, 4));
            }
        }

        private void comersAndBuses() {
            for (int minute : of(0, 1, 2, 3, 4, 5, 6, 7, 58, 59)) {
                for (int way = 0; way < 2; way++) {
                    see(x.set(0, 10 * minute + way, 0));
                    see(x.set(1, 10 * minute + way, 0));
                }
            }
        }

        private void sheets() {
            for (int a = 0; a < 3; a++) {
                for (int b = a + 1; b < 4; b++) {
                    see(x.copy(a, 0, b, 0, 0));
                }
            }
            for (int sheet = 0; sheet < 4; sheet++) {
                see(x.come(0, sheet));
                for (int minute = 0; minute < 6; minute++) {
                    see(x.set(0, 10 * minute, 0));
                }
            }
        }

        private void tapeAndImage() {
            see(x.text());
            see(x.count(4));
            see(x.back());
            lanesAndCounts();
            see(x.waited(60, -1));
            see(x.waited(60, 4));
            comersAndBuses();
        }
    }

    // ---- the objects that the calls are made on

    /** Four LANES, three TEXTS, SHEETS of all sorts with 6 items each, SHEET 3 missing, an IMAGE unlike what is now. */
    private static LanesTurn busy() {
        LanesTurn x = with(0, 5, 0, 2, 3, 1, 4, 9, 0, 1, 2, 1);
        come(x, 0, 20, 20, 20, 5, 0, 1);
        come(x, 1, 3, 3, 30, 30, 3, 9);
        x.set(1, 0, 4);
        x.set(1, 21, 30);
        x.stop(3, 1, 2);
        x.image();
        x.set(0, 590, 7);
        x.set(0, 591, 8);
        x.set(1, 590, 6);
        x.set(1, 591, 5);
        x.set(2, 0, 3);
        x.stop(0, 2, 4);
        rule(x, "turn wait-lanes;pain 1+side;more 0-1;");
        text(x, "turn 0;pain 2;more minute;");
        row(x, 0, 0, 1, 0, 1, 2, 2, 7);
        row(x, 1, 1, 2, 3, 0, 9, 1, 1);
        row(x, 2, 2, 0, 1, 2, 3, 0, 3);
        feed(x, "turn 1;p");
        return x;
    }

    /** No room: 8 LANES, 6 TEXTS, THE TAPE of 160 bytes. */
    private static LanesTurn full() {
        LanesTurn x = with(0, 5, 0, 1, 5, 1, 2, 5, 0, 3, 5, 1, 4, 5, 0, 5, 5, 1, 0, 2, 0, 0, 2, 1);
        come(x, 0, 30, 30, 30);
        come(x, 1, 40, 2, 50);
        for (int i = 1; i <= 5; i++) {
            due("a TEXT", text(x, "turn wait;pain 1;more " + i + ";"), i);
        }
        due("THE TAPE", feed(x, "turn 1;pain 1;more 0;" + " ".repeat(139)), 160);
        return x;
    }

    // ---- the calls

    private static void lanesAndComers() {
        says("Promise 2, lane: BAD; FULL.");
        refused("lane", BAD, (x, a) -> x.lane(a[0], a[1], a[2]), of(-1, 0, 0), of(6, 0, 0), of(0, -1, 0), of(0, 21, 0),
            of(0, 0, -1), of(0, 0, 2), of(LEAST, 0, 0), of(MOST, 0, 0), of(0, LEAST, 0), of(0, MOST, 0),
            of(0, 0, LEAST), of(0, 0, MOST), of(6, 21, 2));
        says("Promise 3, set: BAD.");
        refused("set", BAD, (x, a) -> x.set(a[0], a[1], a[2]), of(-1, 0, 0), of(3, 0, 0), of(LEAST, 0, 0), of(MOST, 0, 0),
            of(0, -1, 0), of(0, -10, 0), of(0, 2, 0), of(0, 9, 0), of(0, 592, 0), of(0, 599, 0), of(0, 600, 0),
            of(0, 601, 0), of(0, LEAST, 0), of(0, MOST, 0), of(0, 0, -1), of(0, 0, 100), of(0, 1, LEAST), of(0, 1, MOST),
            of(1, -1, 0), of(1, 2, 0), of(1, 592, 0), of(1, 600, 0), of(1, 601, 0), of(1, 0, -1), of(1, 0, 100),
            of(2, 0, -1), of(2, 0, 10), of(2, 0, LEAST), of(2, 0, MOST));
        says("Promise 4, come: BAD: way, SHEET; -11.");
        Call come = (x, a) -> x.come(a[0], a[1]);
        refused("come", BAD, come, of(-1, 0), of(2, 0), of(0, -1), of(0, 4), of(LEAST, 0), of(0, MOST));
        refused("come", MISSING, come, of(0, 3), of(1, 3));
        says("Promise 4, come: BAD stands ahead of -11.");
        refused("come", BAD, come, of(-1, 3), of(2, 3));
        says("Promise 5, stop: BAD.");
        refused("stop", BAD, (x, a) -> x.stop(a[0], a[1], a[2]), of(-2, 0, 0), of(4, 0, 0), of(8, 0, 0), of(LEAST, 0, 0),
            of(MOST, 0, 0), of(0, -1, 0), of(0, 0, -1), of(0, 60, 60), of(0, 0, 60), of(0, 1, 0), of(0, 59, 58),
            of(0, LEAST, MOST), of(3, MOST, MOST), of(3, LEAST, LEAST));
        says("Promise 6, told: BAD.");
        refused("told", BAD, (x, a) -> x.told(a[0], a[1], a[2]), of(-1, 0, 0), of(4, 0, 0), of(LEAST, 0, 0), of(MOST, 0, 0),
            of(0, -1, 0), of(0, 6, 0), of(0, LEAST, 0), of(0, MOST, 0), of(0, 4, -1), of(0, 4, 60), of(0, 4, LEAST),
            of(0, 4, MOST), of(0, 5, -1), of(0, 5, 10000), of(0, 5, LEAST), of(0, 5, MOST));
    }

    private static void texts() {
        says("Promise 7, feed: BAD: n is not 1 .. 8.");
        refused("feed", BAD, (x, a) -> x.feed(a[0], -1L), of(0), of(-1), of(9), of(LEAST), of(MOST));
        says("Promise 9, force: BAD.");
        refused("force", BAD, (x, a) -> x.force(a[0]), of(-1), of(3), of(6), of(LEAST), of(MOST));
    }

    private static void days() {
        says("Promise 10, waited: NO: n, by; the SHEET is missing.");
        refused("waited", NO, (x, a) -> x.waited(a[0], a[1]), of(0, -1), of(-1, -1), of(61, -1), of(LEAST, -1),
            of(MOST, -1), of(1, -2), of(1, 5), of(1, LEAST), of(1, MOST), of(1, 3), of(60, 3));
        says("Promise 11, day: BAD: n, by, what; -11.");
        Call day = (x, a) -> x.day(a[0], a[1], a[2]);
        refused("day", BAD, day, of(0, -1, 0), of(61, -1, 0), of(LEAST, -1, 0), of(MOST, -1, 0), of(1, -2, 0), of(1, 5, 0),
            of(1, LEAST, 0), of(1, MOST, 0), of(1, -1, -1), of(1, -1, 5), of(1, -1, LEAST), of(1, -1, MOST));
        refused("day", MISSING, day, of(1, 3, 0), of(60, 3, 4));
        says("Promise 11, day: BAD stands ahead of -11.");
        refused("day", BAD, day, of(0, 3, 0), of(61, 3, 0), of(1, 3, -1), of(1, 3, 5));
        says("Promise 12, best: NO: none such.");
        refused("best", NO, (x, a) -> x.best(a[0], a[1]), of(0, 0), of(61, 0), of(LEAST, 0), of(MOST, 0), of(1, -1),
            of(1, 3), of(1, LEAST), of(1, MOST));
        says("Promise 13, two: NO: none such (n 2 .. 12).");
        refused("two", NO, (x, a) -> x.two(a[0], a[1]), of(1, 0), of(0, 0), of(13, 0), of(60, 0), of(LEAST, 0), of(MOST, 0),
            of(2, -1), of(2, 4), of(2, LEAST), of(2, MOST));
        says("Promise 14, enough: BAD.");
        refused("enough", BAD, (x, a) -> x.enough(a[0], a[1]), of(0, 0), of(61, 0), of(LEAST, 0), of(MOST, 0), of(1, -1),
            of(1, 2), of(1, LEAST), of(1, MOST));
        says("Promise 15, worth: NO: none such.");
        refused("worth", NO, (x, a) -> x.worth(a[0], a[1]), of(0, 0), of(61, 0), of(LEAST, 0), of(MOST, 0), of(1, -1),
            of(1, 4), of(1, LEAST), of(1, MOST));
        says("Promise 16, judge: BAD: SHEET; -11.");
        refused("judge", BAD, (x, a) -> x.judge(a[0]), of(-1), of(4), of(LEAST), of(MOST));
        refused("judge", MISSING, (x, a) -> x.judge(a[0]), of(3));
        says("Promise 19, count: BAD.");
        refused("count", BAD, (x, a) -> x.count(a[0]), of(-1), of(8), of(LEAST), of(MOST));
    }

    private static void host() {
        says("Promise 20, sheet: BAD: no such SHEET, sort; n above 60; -14.");
        Call sheet = (x, a) -> x.sheet(a[0], a[1], a[2]);
        refused("sheet", BAD, sheet, of(-1, 0, 1), of(4, 0, 1), of(LEAST, 0, 1), of(MOST, 0, 1), of(0, -2, 1), of(0, 3, 1),
            of(0, LEAST, 1), of(0, MOST, 1), of(0, 0, 61), of(1, 1, MOST), of(3, 2, 61));
        refused("sheet", BELOW_0, sheet, of(0, 0, -1), of(1, 1, -1), of(2, 2, LEAST), of(3, 0, -1));
        says("Promise 20, sheet: BAD stands ahead of -14, and no such SHEET is none that could be missing.");
        refused("sheet", BAD, sheet, of(4, 0, -1), of(0, 3, -1), of(0, -2, -1), of(-1, -1, 0), of(4, -1, 0));
        says("Promise 21, cell: BAD: no such SHEET; -11; -12.");
        Call cell = (x, a) -> x.cell(a[0], a[1], a[2]);
        refused("cell", BAD, cell, of(-1, 0, 5), of(4, 0, 5), of(LEAST, 0, 5), of(MOST, 0, 5));
        refused("cell", MISSING, cell, of(3, 0, 5));
        refused("cell", OUTSIDE, cell, of(0, -1, 5), of(0, 6, 5), of(1, 6, 5), of(2, 59, 5), of(2, LEAST, 5), of(2, MOST, 5));
        says("Promise 21, cell: BAD stands ahead of -11, that ahead of -12.");
        refused("cell", BAD, cell, of(4, -1, 5));
        refused("cell", MISSING, cell, of(3, -1, 5), of(3, 60, 5));
        says("Promise 24, taken: BAD: k; -11: no such LANE; -13.");
        Call taken = (x, a) -> x.taken(a[0], a[1]);
        refused("taken", BAD, taken, of(0, -1), of(0, 6), of(0, LEAST), of(0, MOST));
        refused("taken", MISSING, taken, of(-1, 0), of(4, 0), of(8, 0), of(LEAST, 0), of(MOST, 0));
        refused("taken", OTHER, taken, of(0, 1), of(1, 1), of(1, 4), of(2, 1), of(3, 3), of(3, 2));
        says("Promise 24, taken: BAD stands ahead of -11.");
        refused("taken", BAD, taken, of(4, 6), of(-1, -1));
    }

    private static void copies() {
        says("Promise 22, copy: BAD: no such SHEET; -11; -13: they are of unlike sorts; -12 (also with n below 0).");
        Call copy = (x, a) -> x.copy(a[0], a[1], a[2], a[3], a[4]);
        on(LanesTurnRefusals::busy);
        refused("copy", BAD, copy, of(-1, 0, 0, 0, 1), of(4, 0, 0, 0, 1), of(0, 0, -1, 0, 1), of(0, 0, 4, 0, 1));
        refused("copy", MISSING, copy, of(3, 0, 0, 0, 1), of(0, 0, 3, 0, 1), of(3, 0, 3, 0, 1));
        refused("copy", OTHER, copy, of(0, 0, 1, 0, 1), of(1, 0, 2, 0, 1), of(2, 0, 0, 0, 0));
        says("Promise 22, copy: BAD stands ahead of -11, that ahead of -13, that ahead of -12.");
        refused("copy", BAD, copy, of(3, 0, 4, 0, 1), of(4, 0, 3, 0, 1));
        refused("copy", MISSING, copy, of(3, -1, 0, 0, 1), of(0, 0, 3, 0, -1));
        refused("copy", OTHER, copy, of(0, -1, 1, 0, 1), of(0, 0, 1, 0, -1), of(0, 0, 2, 0, 61));
        on(() -> {
            LanesTurn x = busy();
            x.sheet(3, 1, 6);
            return x;
        });
        says("Promise 22, copy: -12, nothing is copied.");
        Call ofShorts = (x, a) -> x.copy(1, a[0], 3, a[1], a[2]);
        refused("copy", OUTSIDE, ofShorts, of(0, 0, -1), of(0, 0, LEAST), of(-1, 0, 1), of(0, -1, 1), of(0, 0, 7),
            of(1, 0, 6), of(0, 1, 6), of(6, 0, 1), of(0, 6, 1), of(7, 0, 0), of(0, 7, 0), of(-1, 0, 0), of(0, -1, 0),
            of(LEAST, 0, 1), of(0, LEAST, 1), of(MOST, 0, 1), of(0, MOST, 1), of(0, 0, MOST), of(1, 1, MOST),
            of(MOST, MOST, MOST));
    }

    private static void laneRows() {
        says("Promise 23, lanes: BAD: no such SHEET, sort, n; -13; -11; -12.");
        Call lanes = (x, a) -> x.lanes(a[0], a[1], a[2], a[3]);
        on(LanesTurnRefusals::busy);
        refused("lanes", BAD, lanes, of(-1, 0, 0, 1), of(4, 0, 0, 1), of(0, -1, 0, 1), of(0, 3, 0, 1), of(0, 0, 0, -1),
            of(0, 0, 0, 9), of(0, 0, 0, LEAST), of(0, 0, 0, MOST));
        refused("lanes", OTHER, lanes, of(0, 1, 0, 1), of(0, 2, 0, 1), of(1, 0, 0, 1), of(1, 2, 0, 0), of(2, 0, 0, 1));
        refused("lanes", MISSING, lanes, of(3, 0, 0, 1), of(3, 1, 0, 1), of(3, 2, 0, 0));
        refused("lanes", OUTSIDE, lanes, of(0, 0, -1, 1), of(0, 0, 4, 1), of(0, 0, 5, 8), of(0, 0, 6, 1), of(0, 0, LEAST, 1),
            of(0, 0, LEAST, 8), of(0, 0, MOST, 1), of(0, 0, MOST, 8));
        says("Promise 23, lanes: BAD stands ahead of -13 and -11, these ahead of -12.");
        refused("lanes", BAD, lanes, of(3, 3, 0, 1), of(3, 0, 0, 9), of(0, 1, 0, 9), of(0, 1, 0, -1));
        refused("lanes", OTHER, lanes, of(0, 1, -1, 1));
        refused("lanes", MISSING, lanes, of(3, 1, -1, 1));
        says("Promise 23, lanes: others are left out: none of them comes.");
        refused("lanes", 0, (x, a) -> x.lanes(0, 0, a[0], 1), of(1), of(2), of(3));
    }

    private static void withoutRoom() {
        on(LanesTurnRefusals::full);
        says("Promise 2, lane: FULL (8 at most).");
        Call lane = (x, a) -> x.lane(a[0], a[1], a[2]);
        refused("lane", FULL, lane, of(0, 0, 0), of(5, 20, 1));
        says("Promise 2, lane: BAD stands ahead of FULL.");
        refused("lane", BAD, lane, of(6, 0, 0), of(0, 21, 0), of(0, 0, 2));
        says("Promise 7, feed: FULL (160 bytes at most).");
        refused("feed", FULL, (x, a) -> x.feed(a[0], -1L), of(1), of(2), of(3), of(4), of(5), of(6), of(7), of(8));
        says("Promise 7, feed: BAD stands ahead of FULL.");
        refused("feed", BAD, (x, a) -> x.feed(a[0], -1L), of(0), of(9));
        says("Promise 8, text: FULL (ahead of all): no TEXT more has room (THE TAPE stays).");
        refused("text", FULL, (x, a) -> x.text(), of());
        says("There are 6 TEXTS at most: the last is 5.");
        refused("force", BAD, (x, a) -> x.force(a[0]), of(-1), of(6));
        says("LANES are numbered from 0, 8 at most: the last is 7.");
        refused("told", BAD, (x, a) -> x.told(a[0], 0, 0), of(-1), of(8));
        refused("stop", BAD, (x, a) -> x.stop(a[0], 0, 0), of(-2), of(8));
        refused("worth", NO, (x, a) -> x.worth(1, a[0]), of(-1), of(8));
        refused("taken", MISSING, (x, a) -> x.taken(a[0], 0), of(-1), of(8));
    }

    private static void withNothing() {
        on(LanesTurn::new);
        says("Promise 18, back: STATE: there is none.");
        refused("back", STATE, (x, a) -> x.back(), of());
        says("Promise 1: No LANES.");
        refused("told", BAD, (x, a) -> x.told(a[0], a[1], 0), of(0, 0), of(0, 3), of(0, 5), of(-1, 0));
        refused("stop", BAD, (x, a) -> x.stop(a[0], 0, 0), of(0), of(1), of(-2));
        refused("worth", NO, (x, a) -> x.worth(1, a[0]), of(0), of(-1));
        refused("taken", MISSING, (x, a) -> x.taken(a[0], 0), of(0), of(-1));
        says("SHEETS 0 .. 3 are missing, as all are at first.");
        refused("come", MISSING, (x, a) -> x.come(0, a[0]), of(0), of(1), of(2), of(3));
        refused("judge", MISSING, (x, a) -> x.judge(a[0]), of(0), of(1), of(2), of(3));
        refused("waited", NO, (x, a) -> x.waited(1, a[0]), of(0), of(1), of(2), of(3));
        refused("day", MISSING, (x, a) -> x.day(1, a[0], 0), of(0), of(1), of(2), of(3));
        refused("cell", MISSING, (x, a) -> x.cell(a[0], 0, 0), of(0), of(1), of(2), of(3));
        refused("copy", MISSING, (x, a) -> x.copy(a[0], 0, a[0], 0, 0), of(0), of(1), of(2), of(3));
        refused("lanes", MISSING, (x, a) -> x.lanes(a[0], 0, 0, 0), of(0), of(1), of(2), of(3));
        says("There is TEXT 0 alone.");
        refused("force", BAD, (x, a) -> x.force(a[0]), of(1), of(-1));
    }

    /** The looks themselves: each change that a call may make is seen by them. */
    private static void changesAreSeen() {
        says("a call that is taken changes what the looks see");
        on(LanesTurnRefusals::busy);
        taken("lane", 4, (x, a) -> x.lane(0, 0, 0), of());
        taken("set", 20, (x, a) -> x.set(0, 0, a[0]), of(0), of(99));
        taken("set", 4, (x, a) -> x.set(1, 0, a[0]), of(0), of(99));
        taken("set", 3, (x, a) -> x.set(2, 0, a[0]), of(0), of(9));
        taken("come", 6, (x, a) -> x.come(a[0], a[1]), of(0, 0), of(1, 1));
        taken("stop", 1, (x, a) -> x.stop(a[0], a[1], a[2]), of(-1, 0, 0), of(1, 2, 4), of(0, 2, 3), of(0, 3, 4));
        taken("feed", 9, (x, a) -> x.feed(1, 'x'), of());
        taken("text", -107, (x, a) -> x.text(), of());
        taken("force", 1, (x, a) -> x.force(a[0]), of(0), of(2));
        taken("image", 4, (x, a) -> x.image(), of());
        taken("back", 4, (x, a) -> x.back(), of());
        taken("sheet", 1, (x, a) -> x.sheet(a[0], a[1], a[2]), of(0, 0, 6), of(1, -1, 0), of(3, 0, 1));
        taken("cell", 1, (x, a) -> x.cell(a[0], a[1], 9), of(0, 0), of(1, 5), of(2, 3));
        taken("copy", 1, (x, a) -> x.copy(1, 0, 1, 5, 1), of());
        taken("lanes", 1, (x, a) -> x.lanes(0, 0, a[0], 1), of(0));
    }

    public static void main(String[] args) {
        changesAreSeen();
        on(LanesTurnRefusals::busy);
        lanesAndComers();
        texts();
        days();
        host();
        copies();
        laneRows();
        withoutRoom();
        withNothing();
        end();
    }
}

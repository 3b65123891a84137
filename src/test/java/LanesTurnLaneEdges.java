/**
 * Each sentence of the document about LANES, their KINDS and their COMERS that names an edge: the last value that is taken
 * on either side, what is empty, what is full. What is refused stands in LanesTurnRefusals.
 */
public final class LanesTurnLaneEdges extends Calls {
    // ---- what is there at first, and how much of it there may be

    private static void nothingAtFirst() {
        says("Promise 1: No LANES; nobody comes.");
        LanesTurn x = new LanesTurn();
        int[] counts = {0, 0, 0, 0, 1, 0, 0, 2};
        for (int what = 0; what < 8; what++) {
            due("count " + what, x.count(what), counts[what]);
        }
        for (int what = 0; what < 5; what++) {
            due("day " + what, x.day(60, -1, what), 0);
            due("day by THE RULE " + what, x.day(60, 4, what), 0);
        }
        due("waited", x.waited(60, -1), 0);
        due("waited by THE RULE", x.waited(60, 4), 0);
        due("best", x.best(60, 0), NONE);
        due("best", x.best(60, 1), NONE);
        due("best", x.best(60, 2), 0);
        for (int what = 0; what < 4; what++) {
            due("two " + what, x.two(12, what), NONE);
        }
        due("enough out", x.enough(60, 0), 0);
        due("enough home", x.enough(60, 1), 0);
        due("image", x.image(), 0);
        due("back", x.back(), 0);
    }

    private static void eightLanes() {
        says("LANES (8 at most, numbered from 0, side by side)");
        LanesTurn x = new LanesTurn();
        for (int i = 0; i < 8; i++) {
            due("not there yet", x.told(i, 1, 0), BAD);
            due("its number", x.lane(i % 6, 10 + i, i % 2), i);
            due("it is there", x.told(i, 1, 0), 10 + i);
            due("how many", x.count(0), i + 1);
        }
        due("a ninth", x.lane(0, 0, 0), FULL);
        due("how many", x.count(0), 8);
        due("the first stays", x.told(0, 1, 0), 10);
        due("image", x.image(), 8);
        due("back", x.back(), 8);
    }

    private static void kindsNumbersWays() {
        says("a KIND (0 .. 5); a NUMBER (0 .. 20), a WAY at first (0 out, 1 home)");
        LanesTurn x = new LanesTurn();
        int[][] told = {{0, 0, 0}, {5, 20, 1}, {0, 20, 1}, {5, 0, 0}};
        for (int i = 0; i < told.length; i++) {
            due("lane", x.lane(told[i][0], told[i][1], told[i][2]), i);
            for (int what = 0; what < 3; what++) {
                due("told " + what, x.told(i, what, 0), told[i][what]);
            }
        }
        due("those that go home at first", x.count(1), 2);
        due("the first and the last of 8", with(0, 0, 1, 0, 0, 0, 0, 0, 0, 0, 0, 0, 0, 0, 0, 0, 0, 0, 0, 0, 0, 0, 0, 1)
            .count(1), 2);
        due("WAYS", x.day(1, -1, 4), 0b0110);
    }

    private static void sixtyMinutes() {
        says("MINUTES are 0 .. 59");
        LanesTurn x = with(0, 1, 0);
        due("MINUTE 0 out", x.set(0, 0, 1), 0);
        due("MINUTE 0 home", x.set(0, 1, 1), 0);
        due("MINUTE 59 out", x.set(0, 590, 1), 0);
        due("MINUTE 59 home", x.set(0, 591, 1), 0);
        due("out", x.count(2), 2);
        due("home", x.count(3), 2);
        due("MINUTE 59 comes", x.day(60, -1, 1), 2);
        due("not ahead of it", x.day(59, -1, 1), 1);
        due("it MAY TURN in MINUTE 0", x.told(0, 4, 0), 1);
        due("it MAY TURN in MINUTE 59", x.told(0, 4, 59), 1);
    }

    private static void comersAndBuses() {
        says("COMERS of each WAY (0 .. 99; 0 at first), of whom BUSES (0 .. 99; 0 at first)");
        for (int what = 0; what < 2; what++) {
            LanesTurn x = new LanesTurn();
            for (int when = 0; when < 600; when += 10) {
                due("out at first", x.set(what, when, 99), 0);
                due("home at first", x.set(what, when + 1, 0), 0);
                due("out: what it was", x.set(what, when, 0), 99);
                due("home: what it was", x.set(what, when + 1, 1), 0);
            }
            due("out", x.count(2), 0);
            due("home", x.count(3), what == 0 ? 60 : 0);
        }
    }

    private static void empty() {
        says("EMPTY (0 .. 9 minutes, 2 at first); when does not matter");
        LanesTurn x = new LanesTurn();
        due("at first", x.count(7), 2);
        due("9", x.set(2, LEAST, 9), 2);
        due("0", x.set(2, MOST, 0), 9);
        due("is 0", x.count(7), 0);
        due("what it was", x.set(2, -1, 1), 0);
        due("is 1", x.count(7), 1);
    }

    // ---- what the KINDS do

    private static void carries() {
        says("CARRIES: LANE: NUMBER; WIDE: 2 more than a LANE; BUS: as a LANE; FIXED as a LANE; so many (0 .. 9999) wait");
        int[] kinds = {0, 1, 2, 5};
        for (int kind : kinds) {
            LanesTurn x = with(kind, 0, 0, kind, 20, 0);
            int more = kind == 1 ? 2 : 0;
            for (int waiting : new int[] {0, 1, 10, 9999}) {
                due("KIND " + kind + ", NUMBER 0", x.told(0, 5, waiting), more);
                due("KIND " + kind + ", NUMBER 20", x.told(1, 5, waiting), 20 + more);
            }
        }
    }

    private static void carriesOfShort() {
        says("SHORT: half (rounded up) of a WIDE's");
        int[] carries = {1, 2, 2, 3, 3, 4, 4, 5, 5, 6, 6, 7, 7, 8, 8, 9, 9, 10, 10, 11, 11};
        for (int number = 0; number <= 20; number++) {
            due("NUMBER " + number, with(3, number, 0).told(0, 5, 9999), carries[number]);
        }
    }

    private static void carriesOfSlow() {
        says("SLOW: a BUS's less what wait by 10 (cut; 0 at least); quotients are cut toward 0");
        int[][] due = {{20, 0, 20}, {20, 9, 20}, {20, 10, 19}, {20, 19, 19}, {20, 20, 18}, {20, 199, 1}, {20, 200, 0},
            {20, 209, 0}, {20, 210, 0}, {20, 9999, 0}, {1, 9, 1}, {1, 10, 0}, {1, 20, 0}, {0, 0, 0}, {0, 10, 0}};
        for (int[] d : due) {
            due("NUMBER " + d[0] + ", " + d[1] + " wait", with(4, d[0], 0).told(0, 5, d[1]), d[2]);
        }
    }

    private static void mayTurn() {
        says("MAY TURN: LANE: yes; WIDE, BUS, SHORT: as a LANE; SLOW: in MINUTES that are multiples of 5; FIXED: never");
        LanesTurn x = with(0, 1, 0, 1, 1, 0, 2, 1, 0, 3, 1, 0, 4, 1, 0, 5, 1, 0);
        for (int minute = 0; minute < 60; minute++) {
            int last = minute % 10;
            for (int kind = 0; kind < 4; kind++) {
                due("KIND " + kind + " in " + minute, x.told(kind, 4, minute), 1);
            }
            due("SLOW in " + minute, x.told(4, 4, minute), last == 0 || last == 5 ? 1 : 0);
            due("FIXED in " + minute, x.told(5, 4, minute), 0);
        }
    }

    private static void rests() {
        says("RESTS: LANE: EMPTY; WIDE: 1 more; BUS as a LANE; SHORT as a WIDE; SLOW: twice a BUS's; FIXED as a LANE");
        LanesTurn x = with(0, 1, 0, 1, 1, 0, 2, 1, 0, 3, 1, 0, 4, 1, 0, 5, 1, 0);
        int[] empties = {0, 1, 9};
        int[][] rests = {{0, 1, 0, 1, 0, 0}, {1, 2, 1, 2, 2, 1}, {9, 10, 9, 10, 18, 9}};
        for (int i = 0; i < 3; i++) {
            x.set(2, 0, empties[i]);
            for (int kind = 0; kind < 6; kind++) {
                due("KIND " + kind + ", EMPTY " + empties[i], x.told(kind, 3, 0), rests[i][kind]);
            }
        }
    }

    private static void restsOfADay() {
        says("it goes the other WAY, and RESTS for so many MINUTES from this one on");
        int[] carries = {5, 7, 5, 4, 5};
        int[][] rests = {{0, 1, 0, 1, 0}, {9, 10, 9, 10, 18}};
        for (int i = 0; i < 2; i++) {
            for (int kind = 0; kind < 5; kind++) {
                LanesTurn x = with(kind, 5, 0);
                x.set(2, 0, 9 * i);
                comers(x, 1, 0, 9, 9);
                row(x, 0, 0, 0);
                int first = rests[i][kind];
                due("its WAY at once", x.day(1, 0, 4), 1);
                if (first > 0) {
                    due("KIND " + kind + " RESTS till MINUTE " + (first - 1), x.day(first, 0, 3), 0);
                }
                due("KIND " + kind + " carries in MINUTE " + first, x.day(first + 1, 0, 3), carries[kind]);
            }
        }
    }

    private static void kindsUnder() {
        says("Promise 24: taken for one of KIND k, or one under that one (also by others between)");
        String[] under = {"100000", "110000", "101000", "110100", "101010", "100001"};
        for (int kind = 0; kind < 6; kind++) {
            LanesTurn x = with(kind, 20, 0, kind, 0, 1);
            for (int k = 0; k < 6; k++) {
                boolean is = under[kind].charAt(k) == '1';
                due("KIND " + kind + " for " + k, x.taken(0, k), is ? 20 : OTHER);
                due("KIND " + kind + " for " + k + ", NUMBER 0", x.taken(1, k), is ? 0 : OTHER);
            }
        }
    }

    public static void main(String[] args) {
        nothingAtFirst();
        eightLanes();
        kindsNumbersWays();
        sixtyMinutes();
        comersAndBuses();
        empty();
        carries();
        carriesOfShort();
        carriesOfSlow();
        mayTurn();
        rests();
        restsOfADay();
        kindsUnder();
        end();
    }
}

/**
 * Each sentence of the document about A DAY and what is asked of it that names an edge: the first MINUTE and the last, nobody
 * and more than are carried, of like ones which. What is refused stands in LanesTurnRefusals.
 */
public final class LanesTurnDayEdges extends Calls {
    // ---- a day

    private static void fromNobodyWaiting() {
        says("A DAY, MINUTE by MINUTE, from nobody waiting, all LANES by their WAYS at first, none RESTING");
        LanesTurn x = ruled("side", "1", "0", 0, 1, 0, 0, 1, 0, 0, 1, 1);
        x.set(2, 0, 9);
        come(x, 0, 9, 9, 9);
        row(x, 0, 0, 0, 1, 2);
        long waited = x.waited(3, -1);
        due("7, 14, 21", waited, 42);
        due("by a PLAN: 0, 1 and 2 turned", x.day(3, 0, 4), 0b011);
        due("nothing turned: again", x.waited(3, -1), waited);
        due("by THE RULE", x.day(3, 4, 2), 1);
        due("nothing turned: again", x.waited(3, -1), waited);
        due("OF TWO: nobody", x.two(3, 0), NONE);
        due("BEST: what is turned RESTS", x.best(3, 2), 42);
        due("WORTH", x.worth(3, 0), 6);
        due("ENOUGH", x.enough(3, 0), 2);
        due("JUDGED", x.judge(0), NONE);
        due("nothing turned: again", x.waited(3, -1), waited);
        due("none turned", x.day(3, -1, 2), 0);
        due("by their WAYS at first", x.day(3, -1, 4), 0b100);
    }

    private static void nothingBehindADay() {
        says("BEST, OF TWO, WORTH, ENOUGH: nothing else being turned, whatever day was asked for ahead");
        LanesTurn x = ruled("9*(minute=0)*side", "1", "0", 0, 2, 0, 0, 2, 0, 0, 0, 1);
        x.set(2, 0, 0);
        come(x, 0, 4, 4, 0);
        come(x, 1, 0, 0, 2);
        row(x, 0, 0, 1, 1, 1);
        for (int by = -1; by <= 4; by += by == 0 ? 4 : 1) {
            due("by THE RULE 1 goes home, by the PLAN, too", x.day(1, by, 4), by == NONE ? 0b100 : 0b110);
            due("BEST: 0 in 2", x.best(3, 1), 2);
            due("a day", x.day(1, by, 2), by == NONE ? 0 : 1);
            due("BEST: nobody waits", x.best(3, 2), 0);
            due("a day", x.day(1, by, 2), by == NONE ? 0 : 1);
            due("WORTH: 2, 4, 2", x.worth(3, 0), 8);
            due("a day", x.day(1, by, 2), by == NONE ? 0 : 1);
            due("ENOUGH", x.enough(2, 0), 0);
            due("a day", x.day(1, by, 2), by == NONE ? 0 : 1);
            due("OF TWO: LANE 2, which carries nobody, so 2 wait at home", x.two(3, 3) * 10 + x.two(3, 0), 22);
            due("JUDGED", x.judge(x.sheet(0, 0, 0) - 1), NONE);
            row(x, 0, 0, 1, 1, 1);
        }
    }

    private static void busesAmongComers() {
        says("BUSES among them (no more than come)");
        int[][] due = {{5, 4, 4}, {5, 5, 5}, {5, 6, 5}, {5, 99, 5}, {0, 99, 0}};
        for (int[] d : due) {
            LanesTurn x = with(2, 20, 0);
            comers(x, 0, 0, d[0], d[1]);
            due(d[1] + " BUSES of " + d[0], x.day(1, -1, 3), d[2]);
        }
        LanesTurn less = ruled("0", "1", "(minute=0)*-2", 2, 20, 0);
        comers(less, 0, 0, 5, 5);
        due("3 come", less.day(1, -1, 3), 3);
        comers(less, 0, 0, 1, 5);
        comers(less, 0, 1, 4, 0);
        due("none come, so none of the next ones is a bus", less.day(2, -1, 3), 0);
        LanesTurn more = ruled("0", "1", "2", 2, 20, 0);
        comers(more, 0, 0, 0, 9);
        due("2 more come, all buses", more.day(1, -1, 3), 2);
    }

    private static void moreAsTheMinuteBegins() {
        says("more as the MINUTE begins; pain (as it ends)");
        LanesTurn x = ruled("0", "wait", "wait", 0, 1, 0);
        comers(x, 0, 0, 3, 0);
        due("none wait ahead of MINUTE 0: 3 come, 2 wait", x.waited(1, -1), 4);
        due("2 wait ahead of MINUTE 1: 2 come, 3 wait", x.waited(2, -1), 4 + 9);
        due("3 wait ahead of MINUTE 2: 3 come, 5 wait", x.waited(3, -1), 4 + 9 + 25);
    }

    private static void restingAndStopped() {
        says("one that RESTS carries nobody, and RESTS a MINUTE less; one that is STOPPED carries nobody");
        LanesTurn x = with(0, 1, 0);
        comers(x, 1, 0, 9, 0);
        row(x, 0, 0, 0);
        due("RESTS in 0 and 1", x.day(3, 0, 3), 1);
        x.stop(0, 0, 1);
        due("STOPPED in 0 and 1 it RESTS less, too", x.day(3, 0, 3), 1);
        x.stop(0, 2, 3);
        due("then STOPPED in 2 and 3", x.day(4, 0, 3), 0);
        due("not in 4", x.day(5, 0, 3), 1);
        row(x, 0, 0, -1, -1, 0, -1, 0);
        due("a STOPPED one is turned", x.day(5, 0, 2), 2);
        due("and is told well", x.judge(0), NONE);
    }

    private static void stillWaiting() {
        says("each other one takes of those who wait on its side still as many as it CARRIES");
        int[][] due = {{2, 2, 0}, {3, 3, 0}, {4, 4, 0}, {6, 6, 0}, {7, 6, 1}, {0, 0, 0}};
        for (int[] d : due) {
            LanesTurn x = with(0, 3, 0, 0, 3, 0, 0, 20, 1);
            comers(x, 0, 0, d[0], 0);
            due(d[0] + " come: CARRIED", x.day(1, -1, 3), d[1]);
            due(d[0] + " come: WAIT", x.day(1, -1, 0), d[2]);
        }
    }

    private static void asAllLanesBegan() {
        says("by how many waited there as all LANES began");
        LanesTurn x = with(0, 5, 0, 4, 3, 0);
        comers(x, 0, 0, 12, 10);
        due("SLOW by 12, not by the 7 that are left: 5 and 2", x.day(1, -1, 0), 5);
        LanesTurn y = with(4, 3, 0);
        comers(y, 0, 0, 9, 3);
        due("by 9: 3 buses", y.day(1, -1, 3), 3);
        comers(y, 0, 0, 10, 3);
        due("by 10, not by 3 buses: 2", y.day(1, -1, 3), 2);
        comers(y, 1, 0, 99, 99);
        due("by its own side", y.day(1, -1, 3), 2);
        LanesTurn z = with(4, 3, 1);
        comers(z, 0, 0, 99, 99);
        comers(z, 1, 0, 9, 3);
        due("by its own side at home: 3 buses", z.day(1, -1, 3), 3);
        comers(z, 1, 0, 20, 3);
        due("by 20 at home: 1", z.day(1, -1, 3), 1);
    }

    private static void busesAlone() {
        says("a BUS, or one under it, buses alone");
        for (int kind : new int[] {2, 4}) {
            int[][] due = {{5, 0, 5}, {5, 3, 2}, {5, 5, 0}};
            for (int[] d : due) {
                LanesTurn x = with(kind, 20, 0);
                comers(x, 0, 0, d[0], d[1]);
                due("KIND " + kind + ", " + d[1] + " buses of 5: WAIT", x.day(1, -1, 0), d[2]);
            }
        }
    }

    private static void busesLast() {
        says("others of all, buses last");
        int[][] lanesOfThree = {{0, 3}, {1, 1}, {3, 4}, {3, 3}, {5, 3}};
        for (int[] lane : lanesOfThree) {
            LanesTurn x = with(lane[0], lane[1], 0, 2, 20, 0);
            comers(x, 0, 0, 5, 3);
            due("KIND " + lane[0] + ": 2 others, 1 bus; then 2 buses", x.day(1, -1, 0), 0);
            comers(x, 0, 0, 5, 2);
            due("KIND " + lane[0] + ": 3 others; then 2 buses", x.day(1, -1, 0), 0);
            comers(x, 0, 0, 5, 1);
            due("KIND " + lane[0] + ": 3 others; 1 bus; 1 other stays", x.day(1, -1, 0), 1);
        }
        LanesTurn alone = with(0, 3, 0);
        comers(alone, 0, 0, 5, 5);
        due("buses alone are there", alone.day(1, -1, 3), 3);
    }

    private static void ruleAboveZero() {
        says("BY THE RULE: the WAY of which turn comes to more (of like ones 0), if that is above 0, has a LANE more");
        int none = 0b0011;
        int out = 0b0001;
        int home = 0b1011;
        String[] turns = {"0", "-1", "1", "side", "1-side", "-side", "side-1", "2-side", "1+side",
            LEAST_INT, LEAST_INT + "-1+side", LEAST_INT + "-side", LEAST_INT + "-1"};
        int[] ways = {none, none, out, home, out, none, none, out, home, none, out, home, out};
        for (int i = 0; i < turns.length; i++) {
            LanesTurn x = ruled(turns[i], "1", "0", 0, 0, 1, 0, 0, 1, 0, 0, 0, 0, 0, 0);
            due("turn " + turns[i] + ": WAYS", x.day(1, 4, 4), ways[i]);
            due("turn " + turns[i] + ": TURNS", x.day(1, 4, 2), ways[i] == none ? 0 : 1);
        }
        LanesTurn y = ruled("1", "1", "0", 0, 0, 1, 0, 0, 0, 0, 0, 0);
        due("of like ones 0, though none can come out", y.day(9, 4, 2), 0);
    }

    private static void ruleOfTwoOrMore() {
        says("if two or more go the other WAY");
        due("none goes out", ruled("side", "1", "0", 0, 0, 1).day(1, 4, 2), 0);
        due("one goes out", ruled("side", "1", "0", 0, 0, 0, 0, 0, 1, 0, 0, 1).day(60, 4, 2), 0);
        due("two go out", ruled("side", "1", "0", 0, 0, 0, 0, 0, 0).day(60, 4, 2), 1);
        due("three go out", ruled("side", "1", "0", 0, 0, 0, 0, 0, 0, 0, 0, 0).day(60, 4, 2), 2);
        due("a FIXED one is one of two", ruled("side", "1", "0", 0, 0, 0, 5, 0, 0).day(1, 4, 4), 0b01);
        LanesTurn x = ruled("(minute=0)*side+(0<minute)*(1-side)", "1", "0", 0, 0, 0, 0, 0, 0, 0, 0, 1);
        due("1 goes home", x.day(1, 4, 4), 0b110);
        due("a RESTING one is one of two", x.day(2, 4, 4), 0b010);
        due("then one goes home", x.day(60, 4, 2), 2);
    }

    private static void ruleOfTheGreatest() {
        says("of those that do, MAY TURN and aren't RESTING the one with the greatest number (none, if there is none)");
        due("not the greatest NUMBER", ruled("side", "1", "0", 0, 20, 0, 0, 1, 0).day(1, 4, 4), 0b10);
        due("LANE 7", ruled("side", "1", "0", 0, 1, 0, 0, 1, 0, 0, 1, 0, 0, 1, 0, 0, 1, 0, 0, 1, 0, 0, 1, 0, 0, 1, 0)
            .day(1, 4, 4), 0b10000000);
        due("not one that goes that WAY", ruled("side", "1", "0", 0, 1, 0, 0, 1, 0, 0, 1, 1).day(1, 4, 4), 0b110);
        due("LANE 0", ruled("side", "1", "0", 0, 1, 0, 5, 1, 0, 0, 1, 1).day(1, 4, 4), 0b101);
        due("FIXED ones: none", ruled("side", "1", "0", 5, 1, 0, 5, 1, 0).day(60, 4, 2), 0);
        LanesTurn slow = ruled("(0<minute)*side", "1", "0", 4, 1, 0, 4, 1, 0);
        due("SLOW ones not in 1 .. 4", slow.day(5, 4, 2), 0);
        due("in 5", slow.day(6, 4, 4), 0b10);
        LanesTurn x = ruled("(minute<2)*side+(1<minute)*(1-side)", "1", "0", 0, 1, 0, 0, 1, 0, 0, 1, 0, 0, 1, 0);
        x.set(2, 0, 9);
        due("3 and 2 go home", x.day(2, 4, 4), 0b1100);
        due("both RESTING: none", x.day(9, 4, 4), 0b1100);
        due("3 is not RESTING in 9", x.day(10, 4, 4), 0b0100);
        due("one alone goes home", x.day(60, 4, 2), 3);
    }

    private static void plans() {
        says("BY A PLAN (a SHEET of a LANE, or -1, for each MINUTE from 0 on; behind its end none)");
        LanesTurn x = with(0, 1, 0, 5, 1, 0, 4, 1, 0);
        due("a SHEET of none", x.sheet(0, 0, 0), 1);
        due("nothing is turned", x.day(60, 0, 2), 0);
        row(x, 0, 0, -1, 0);
        due("MINUTE 1", x.day(1, 0, 2), 0);
        due("MINUTE 1", x.day(2, 0, 2), 1);
        due("behind its end none", x.day(60, 0, 2), 1);
        due("60 MINUTES", x.sheet(1, 0, 60), 1);
        for (int minute = 0; minute < 60; minute++) {
            due("-1", x.cell(1, minute, minute == 59 ? 0 : -1), 1);
        }
        due("MINUTE 59", x.day(59, 1, 2), 0);
        due("MINUTE 59", x.day(60, 1, 4), 1);
        says("that LANE, if it is there, MAY TURN, and isn't RESTING");
        row(x, 2, 2, 3, -2, 8, LEAST, MOST, 1, 2, 0, 0, 0);
        due("not there, FIXED, SLOW in 6, RESTING in 8: 0 in 7 and 9", x.day(10, 2, 2), 2);
        due("not RESTING in 9", x.day(9, 2, 2), 1);
        due("once more", x.day(10, 2, 4), 0);
        row(x, 2, 2, 2);
        due("SLOW in 0, the last that goes out or not", x.day(1, 2, 4), 0b100);
    }

    private static void tillAMinute() {
        says("ALL WAITED till a MINUTE n (1 .. 60): PAIN of MINUTES 0 .. n - 1");
        LanesTurn x = new LanesTurn();
        x.set(0, 0, 1);
        x.set(0, 591, 1);
        due("n 1", x.waited(1, -1), 1);
        due("n 59", x.waited(59, -1), 59);
        due("n 60", x.waited(60, -1), 61);
        due("n 60 by THE RULE", x.waited(60, 4), 61);
        for (int sheet = 0; sheet < 4; sheet++) {
            due("sheet", x.sheet(sheet, sheet % 3, 0), 1);
            due("by SHEET " + sheet, x.waited(60, sheet), 61);
            due("by SHEET " + sheet, x.day(60, sheet, 1), 1);
        }
    }

    private static void stops() {
        says("A STOP: a LANE is STOPPED from a MINUTE to another one (both counted; one STOP at most, by call)");
        LanesTurn x = with(0, 1, 0, 0, 1, 1);
        x.set(0, 0, 99);
        x.set(0, 1, 99);
        due("of 60", x.day(60, -1, 3), 120);
        int[][] due = {{0, 0, 1}, {59, 59, 1}, {0, 59, 60}, {7, 9, 3}, {58, 59, 2}, {1, 1, 1}};
        for (int[] d : due) {
            due("stop", x.stop(0, d[0], d[1]), 1);
            due("from " + d[0] + " to " + d[1], x.day(60, -1, 3), 120 - d[2]);
            due("ahead of it", d[0] == 0 ? 0 : x.day(d[0], -1, 3), 2 * d[0]);
            due("in it", x.day(d[1] + 1, -1, 3), 2 * (d[1] + 1) - d[2]);
        }
        due("another one", x.stop(1, 4, 4), 1);
        due("one STOP at most", x.day(60, -1, 3), 119);
        due("of LANE 1", x.day(60, -1, 1), 99 - 59);
        due("lane NONE: there is none then", x.stop(NONE, 5, 5), 1);
        due("none", x.day(60, -1, 3), 120);
    }

    // ---- the best of all

    private static void bestOfLikeOnes() {
        says("BEST: of like ones nothing, then the least MINUTE, then LANE");
        LanesTurn x = with(0, 1, 0, 0, 1, 0);
        due("all are alike: nothing", x.best(5, 0), NONE);
        due("nothing", x.best(5, 1), NONE);
        due("ALL WAITED", x.best(5, 2), 0);
        x.set(2, 0, 0);
        comers(x, 1, 2, 1, 0);
        due("0 and 1 in 0, 1, 2 are alike: the least LANE", x.best(3, 0), 0);
        due("the least MINUTE", x.best(3, 1), 0);
        LanesTurn y = with(0, 5, 0, 2, 5, 0);
        y.set(2, 0, 0);
        comers(y, 0, 0, 5, 0);
        comers(y, 1, 2, 3, 3);
        due("0 in 1 and 1 in 0 are alike: the MINUTE ahead of the LANE", y.best(3, 0), 1);
        due("in 0", y.best(3, 1), 0);
        due("nobody waits", y.best(3, 2), 0);
    }

    private static void bestAheadOfN() {
        says("BEST: one LANE being turned once in a MINUTE ahead of n (in which it MAY TURN)");
        LanesTurn x = with(0, 9, 0);
        x.set(2, 0, 0);
        comers(x, 0, 58, 9, 0);
        comers(x, 1, 59, 9, 0);
        due("in the last MINUTE", x.best(60, 1), 59);
        due("LANE 0", x.best(60, 0), 0);
        due("nobody waits", x.best(60, 2), 0);
        due("not ahead of it", x.best(59, 0), NONE);
        due("n 1: nothing", x.best(1, 0), NONE);
        comers(x, 1, 0, 4, 0);
        due("n 1: in 0", x.best(1, 1), 0);
        due("n 1: nobody waits", x.best(1, 2), 0);
        LanesTurn slow = with(4, 9, 0);
        slow.set(2, 0, 0);
        comers(slow, 0, 0, 9, 9);
        comers(slow, 1, 3, 9, 9);
        due("SLOW not in 1 .. 4, and in 0 it is worse", slow.best(5, 0), NONE);
        due("SLOW in 5", slow.best(6, 1), 5);
        due("in 3 and 4 they wait", slow.best(6, 2), 18);
        LanesTurn fixed = with(5, 9, 0);
        comers(fixed, 1, 0, 9, 9);
        due("FIXED never", fixed.best(60, 0), NONE);
        LanesTurn once = with(0, 9, 0);
        once.set(2, 0, 0);
        comers(once, 0, 0, 9, 0);
        comers(once, 1, 1, 9, 0);
        comers(once, 0, 2, 9, 0);
        comers(once, 0, 3, 9, 0);
        due("once: nothing, in 1 and in 3 are alike, in 0 and in 2 are worse", once.best(4, 0), NONE);
        due("nobody would wait by 1 and 2", once.best(4, 2), 27);
    }

    private static void bestOneByOne() {
        says("BEST: what was tried ahead is not in what is tried next");
        LanesTurn x = with(0, 2, 0, 0, 3, 0, 0, 1, 0);
        x.set(2, 0, 0);
        come(x, 0, 0, 2, 2, 2);
        come(x, 1, 0, 9, 0, 0);
        due("LANE 1: out nobody waits by 2 and 1; home 6, 3, 0", x.best(4, 2), 9);
        due("LANE 1", x.best(4, 0), 1);
        due("in 0", x.best(4, 1), 0);
    }

    private static void twoBounds() {
        says("OF TWO (n 2 .. 12): one LANE turned in a MINUTE, and back in a later one (MAY TURN, not RESTING then)");
        LanesTurn x = with(0, 1, 0);
        x.set(2, 0, 1);
        due("n 2: 0 and 1", x.two(2, 2), 1);
        x.set(2, 0, 2);
        due("n 2: RESTING in 1", x.two(2, 2), NONE);
        due("n 3: 0 and 2", x.two(3, 2), 2);
        x.set(2, 0, 9);
        due("n 9: RESTING till 8", x.two(9, 0), NONE);
        due("n 10: 0 and 9", x.two(10, 2), 9);
        LanesTurn wide = with(1, 1, 0);
        wide.set(2, 0, 0);
        due("WIDE, EMPTY 0: 0 and 1", wide.two(2, 2), 1);
        wide.set(2, 0, 9);
        due("WIDE, EMPTY 9: not in n 10", wide.two(10, 0), NONE);
        due("WIDE, EMPTY 9: 0 and 10", wide.two(11, 2), 10);
        LanesTurn slow = with(4, 1, 0);
        slow.set(2, 0, 0);
        due("SLOW, n 5", slow.two(5, 0), NONE);
        due("SLOW, n 6: 0 and 5", slow.two(6, 2), 5);
        slow.set(2, 0, 5);
        due("SLOW RESTS 10: 0 and 10", slow.two(11, 2), 10);
        slow.set(2, 0, 6);
        due("SLOW RESTS 12", slow.two(12, 0), NONE);
        due("FIXED", with(5, 1, 0).two(12, 0), NONE);
        LanesTurn last = with(0, 9, 0);
        last.set(2, 0, 0);
        come(last, 0, 9, 9, 9, 9, 9, 9, 9, 9, 9, 9, 0, 9);
        comers(last, 1, 10, 9, 0);
        due("n 12: 10", last.two(12, 1), 10);
        due("n 12: and 11", last.two(12, 2), 11);
        due("n 12: nobody waits", last.two(12, 3), 0);
    }

    private static void twoOfLikeOnes() {
        says("OF TWO: of like ones the least LANE, then first MINUTE, then later one");
        LanesTurn x = with(0, 5, 0, 2, 5, 0);
        x.set(2, 0, 0);
        due("all are alike", x.two(4, 0), 0);
        due("all are alike", x.two(4, 1), 0);
        due("all are alike", x.two(4, 2), 1);
        comers(x, 0, 0, 5, 0);
        comers(x, 1, 2, 3, 3);
        due("0 in 1 and 3, 1 in 0 and 3 are alike: the LANE ahead of the MINUTE", x.two(4, 0), 0);
        due("0 in 1 and 3, 0 in 2 and 3 are alike", x.two(4, 1), 1);
        due("back in 3", x.two(4, 2), 3);
        due("0 in 1 and 3, and in 1 and 4 are alike: the least later one", x.two(5, 2), 3);
        due("nobody waits", x.two(5, 3), 0);
        LanesTurn y = with(5, 1, 0, 0, 1, 0);
        y.set(2, 0, 0);
        comers(y, 0, 0, 2, 0);
        due("it is done, though nothing were better: 0 .. 1 costs 1", y.two(2, 3), 1);
        due("nothing", y.waited(2, -1), 0);
    }

    private static void enoughBounds() {
        says("ENOUGH: the least (0 .. 20); so many times 5 more of all who wait there are taken; NONE");
        int[][] due = {{0, 0}, {1, 1}, {5, 1}, {6, 2}, {10, 2}, {11, 3}, {95, 19}, {96, 20}, {99, 20}};
        for (int[] d : due) {
            LanesTurn x = new LanesTurn();
            comers(x, 1, 0, d[0], 0);
            due(d[0] + " wait", x.enough(1, 1), d[1]);
            due("nobody waits on the other side", x.enough(1, 0), 0);
        }
        LanesTurn y = ruled("0", "1", "99*(minute=0)");
        comers(y, 0, 0, 1, 1);
        due("100 wait", y.enough(1, 0), 20);
        comers(y, 0, 0, 2, 99);
        due("101 wait", y.enough(1, 0), NONE);
        due("in each MINUTE: 101 by two", y.enough(2, 0), 11);
        due("101 by 60", y.enough(60, 0), 1);
        LanesTurn last = ruled("0", "1", "99*(minute=59)");
        comers(last, 0, 59, 2, 0);
        due("101 in the last MINUTE", last.enough(60, 0), NONE);
        due("not ahead of it", last.enough(59, 0), 0);
    }

    private static void enoughBehindLanes() {
        says("ENOUGH: behind all LANES, in each MINUTE; of all who wait there; nothing being turned");
        LanesTurn x = with(4, 5, 0);
        comers(x, 0, 0, 10, 10);
        due("SLOW by 10: 4; 5 and 5 more", x.enough(1, 0), 2);
        comers(x, 0, 0, 9, 9);
        due("SLOW by 9: 5; 5 more", x.enough(1, 0), 1);
        LanesTurn y = with(0, 3, 0, 2, 20, 0);
        comers(y, 0, 0, 8, 0);
        due("3; 5 more", y.enough(1, 0), 1);
        comers(y, 0, 0, 8, 8);
        due("all by the LANES", y.enough(1, 0), 0);
        LanesTurn z = ruled("side", "1", "0", 0, 0, 0, 0, 9, 0);
        comers(z, 0, 0, 9, 0);
        due("nothing being turned", z.enough(1, 0), 0);
        z.stop(1, 0, 0);
        due("the STOP stays", z.enough(1, 0), 2);
    }

    private static void worths() {
        says("WORTH: ALL WAITED, were it STOPPED in all MINUTES (beside the STOP), less ALL WAITED (nothing being turned)");
        LanesTurn x = with(0, 1, 0, 0, 1, 0, 0, 1, 1);
        x.set(0, 0, 2);
        x.set(0, 590, 2);
        due("n 1", x.worth(1, 0), 1);
        due("n 59: 1", x.worth(59, 1), 1);
        due("n 60: 1 and 1", x.worth(60, 0), 2);
        due("of nobody", x.worth(60, 2), 0);
        x.stop(0, 0, 59);
        due("it is STOPPED already", x.worth(60, 0), 0);
        due("beside the STOP nobody carries: 2 * 59 + 4 less 1 + 1", x.worth(60, 1), 120);
        x.stop(0, 59, 59);
        due("STOPPED in 59 alone: 1 + 2 * 0 + 1, less 1", x.worth(60, 0), 1);
        due("a STOP is not changed", x.waited(60, -1), 1);
        LanesTurn y = ruled("side", "1", "0", 0, 0, 0, 0, 9, 0);
        comers(y, 0, 0, 9, 0);
        due("nothing being turned", y.worth(1, 1), 9);
    }

    private static void judgedFirst() {
        says("JUDGED: the first MINUTE of a PLAN in which a LANE is told that isn't there, MAY not TURN, or RESTS; NONE");
        LanesTurn x = with(0, 1, 0, 5, 1, 0, 4, 1, 0);
        due("a SHEET of none", x.sheet(0, 0, 0) - 1 + x.judge(0), NONE);
        int[][] plans = {{-1, -1}, {0, -1, 0, -1, 0}, {3, 3}, {-2}, {0, 1, 9}, {1, 0}, {2, 2}, {2, -1, -1, -1, 2},
            {2, -1, -1, -1, -1, 2}, {0, 0}, {0, -1, 0, 0}, {0, 2}, {0, -1, -1, 8}, {MOST}, {-1, LEAST}};
        int[] judged = {NONE, NONE, 0, 0, 1, 0, 1, 4, NONE, 1, 3, 1, 3, 0, 1};
        for (int i = 0; i < plans.length; i++) {
            row(x, 0, 2, plans[i]);
            due("PLAN " + i, x.judge(0), judged[i]);
        }
        due("60 MINUTES", x.sheet(3, 1, 60), 1);
        for (int minute = 0; minute < 60; minute++) {
            due("cell", x.cell(3, minute, minute == 59 ? 3 : -1), 1);
        }
        due("MINUTE 59", x.judge(3), 59);
        due("it is there", x.lane(0, 0, 0), 3);
        due("60 MINUTES", x.judge(3), NONE);
    }

    public static void main(String[] args) {
        fromNobodyWaiting();
        nothingBehindADay();
        busesAmongComers();
        moreAsTheMinuteBegins();
        restingAndStopped();
        stillWaiting();
        asAllLanesBegan();
        busesAlone();
        busesLast();
        ruleAboveZero();
        ruleOfTwoOrMore();
        ruleOfTheGreatest();
        plans();
        tillAMinute();
        stops();
        bestOfLikeOnes();
        bestAheadOfN();
        bestOneByOne();
        twoBounds();
        twoOfLikeOnes();
        enoughBounds();
        enoughBehindLanes();
        worths();
        judgedFirst();
        end();
    }
}

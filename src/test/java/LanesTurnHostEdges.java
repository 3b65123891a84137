/**
 * Each sentence of the document about THE IMAGE, SHEETS and what comes by them that names an edge: empty, full, the last item
 * and the first behind it, what wraps. What is refused stands in LanesTurnRefusals.
 */
public final class LanesTurnHostEdges extends Calls {
    // ---- what is kept

    private static void imageOfAll() {
        says("AN IMAGE keeps COMERS, BUSES, EMPTY, the STOP, THE RULE (LANES that came since stay)");
        for (int what = 0; what < 2; what++) {
            LanesTurn x = new LanesTurn();
            for (int when : new int[] {0, 1, 590, 591}) {
                x.set(what, when, 40 + when % 10);
            }
            due("image", x.image(), 0);
            for (int when : new int[] {0, 1, 590, 591, 300}) {
                x.set(what, when, 99);
            }
            due("back", x.back(), 0);
            for (int when : new int[] {0, 1, 590, 591}) {
                due("what " + what + " when " + when, x.set(what, when, 0), 40 + when % 10);
            }
            due("0 it was", x.set(what, 300, 0), 0);
            due("back, once more", x.back(), 0);
            due("as in THE IMAGE", x.set(what, 591, 0), 41);
        }
        LanesTurn y = with(0, 1, 0);
        y.set(2, 0, 9);
        due("of one", y.image(), 1);
        y.set(2, 0, 0);
        text(y, "turn 0;pain 2;more 0;");
        y.force(1);
        y.feed(3, -1L);
        y.sheet(2, 0, 1);
        due("LANES that came since", y.lane(5, 7, 1), 1);
        due("stay", y.back(), 2);
        due("EMPTY", y.count(7), 9);
        due("THE RULE", y.count(6), 0);
        due("it is TEXT 0", y.set(0, 0, 3) + y.waited(1, -1), 2);
        due("TEXTS stay", y.force(1), 0);
        due("THE TAPE stays", y.count(5), 3);
        due("SHEETS stay", y.cell(2, 0, 0), 1);
        due("the LANE", y.told(1, 1, 0), 7);
    }

    private static void imageOfStops() {
        says("AN IMAGE keeps the STOP: its LANE, from and to");
        LanesTurn x = with(0, 1, 0, 0, 2, 0);
        x.set(0, 0, 99);
        due("image", x.image(), 2);
        int[][] others = {{0, 3, 3}, {0, 2, 4}, {1, 3, 4}, {NONE, 0, 0}};
        for (int[] o : others) {
            x.stop(o[0], o[1], o[2]);
            due("back", x.back(), 2);
            due("none is kept", x.day(9, -1, 3), 27);
        }
        x.stop(0, 3, 4);
        due("image", x.image(), 2);
        for (int[] o : others) {
            x.stop(o[0], o[1], o[2]);
            due("back", x.back(), 2);
            due("ahead of from", x.day(3, -1, 3), 9);
            due("from", x.day(4, -1, 3), 11);
            due("to", x.day(5, -1, 3), 13);
            due("behind to", x.day(6, -1, 3), 16);
        }
    }

    private static void countsOfAll() {
        says("Promise 19: 2 all COMERS out, 3 home: none, and as many as can be");
        LanesTurn x = new LanesTurn();
        due("none", x.count(2) + x.count(3), 0);
        due("sheet", x.sheet(0, 0, 60), 1);
        for (int minute = 0; minute < 60; minute++) {
            x.cell(0, minute, 99);
        }
        due("come", x.come(0, 0), 60);
        due("out", x.count(2), 5940);
        due("home", x.count(3), 0);
        x.cell(0, 59, 98);
        due("come", x.come(1, 0), 60);
        due("home", x.count(3), 5939);
        due("out", x.count(2), 5940);
    }

    // ---- the host

    private static void comersBySheet() {
        says("Promise 4: it ends where the SHEET ends, or a number is none such");
        int[][] sheets = {{}, {0}, {99}, {100}, {-1}, {5, -1, 5}, {5, 100, 5}, {5, 0, 99, MOST}, {1, 2, LEAST}};
        int[] told = {0, 1, 1, 0, 0, 1, 1, 3, 2};
        int[] sums = {70, 40, 139, 70, 70, 45, 45, 124, 23};
        for (int i = 0; i < sheets.length; i++) {
            LanesTurn x = new LanesTurn();
            x.set(0, 0, 30);
            x.set(0, 10, 20);
            x.set(0, 20, 0);
            x.set(0, 30, 0);
            x.set(0, 590, 20);
            x.set(0, 591, 7);
            row(x, 0, 2, sheets[i]);
            due("SHEET " + i + ": how many", x.come(0, 0), told[i]);
            due("SHEET " + i + ": the others stay", x.count(2), sums[i]);
            due("the other WAY stays", x.count(3), 7);
        }
    }

    private static void sheetBounds() {
        says("SHEETS 0 .. 3 are rows of numbers, or missing: of sort 0 bytes, 1 shorts, 2 ints; 60 at most");
        LanesTurn x = new LanesTurn();
        for (int sheet = 0; sheet < 4; sheet++) {
            for (int sort = 0; sort < 3; sort++) {
                due("of 60", x.sheet(sheet, sort, 60), 1);
                due("the first", x.cell(sheet, 0, 1), 1);
                due("the last", x.cell(sheet, 59, 1), 1);
                due("behind it", x.cell(sheet, 60, 1), OUTSIDE);
                due("of none", x.sheet(sheet, sort, 0), 1);
                due("none is there", x.cell(sheet, 0, 1), OUTSIDE);
                due("of 1", x.sheet(sheet, sort, 1), 1);
                due("the first", x.cell(sheet, 0, 1), 1);
                due("behind it", x.cell(sheet, 1, 1), OUTSIDE);
            }
        }
        says("Promise 20: all 0, or missing (sort -1: n does not matter)");
        for (int n : new int[] {0, 60, 61, -1, LEAST, MOST}) {
            row(x, 1, 0, 7, 8);
            due("missing", x.sheet(1, -1, n), 1);
            due("missing", x.come(0, 1), MISSING);
            due("missing, once more", x.sheet(1, -1, n), 1);
            due("it is there", x.sheet(1, 0, 2), 1);
            due("two", x.come(0, 1), 2);
            due("all 0", x.count(2), 0);
        }
        row(x, 2, 2, 7, 8);
        due("again", x.sheet(2, 2, 2), 1);
        due("all 0", x.come(0, 2) + x.count(2), 2);
    }

    private static void wrappedCells() {
        says("Promise 21: of bytes, shorts its lowest 8, 16 bits");
        int[][] bytes = {{127, 127}, {128, -128}, {255, -1}, {256, 0}, {-128, -128}, {-129, 127}, {355, 99}, {-157, 99},
            {65535, -1}, {MOST, -1}, {LEAST, 0}, {-1, -1}, {-2, -2}};
        int[][] shorts = {{127, 127}, {128, 128}, {255, 255}, {32767, 32767}, {32768, -32768}, {65535, -1}, {65536, 0},
            {65635, 99}, {-32768, -32768}, {-32769, 32767}, {-65437, 99}, {MOST, -1}, {LEAST, 0}, {-1, -1}, {-2, -2}};
        int[][] ints = {{99, 99}, {65635, 65635}, {65536, 65536}, {355, 355}, {65535, 65535}, {255, 255}, {MOST, MOST},
            {LEAST, LEAST}, {-1, -1}, {-2, -2}};
        int[][][] all = {bytes, shorts, ints};
        for (int sort = 0; sort < 3; sort++) {
            for (int[] c : all[sort]) {
                LanesTurn x = with(5, 1, 0, 5, 1, 0);
                row(x, 0, sort, c[0]);
                boolean isTaken = c[1] >= 0 && c[1] <= 99;
                due("sort " + sort + ", " + c[0] + " comes", x.come(0, 0), isTaken ? 1 : 0);
                due("sort " + sort + ", " + c[0], x.count(2), isTaken ? c[1] : 0);
                due("sort " + sort + ", " + c[0] + " as a LANE", x.judge(0), c[1] == -1 ? NONE : 0);
            }
        }
    }

    /** Six shorts, copied within their SHEET: all six as a number of six digits. */
    private static void copied(int i, int j, int n, long want) {
        LanesTurn x = new LanesTurn();
        row(x, 0, 1, 1, 2, 3, 4, 5, 6);
        due("copy " + i + " to " + j + " of " + n, x.copy(0, i, 0, j, n), n);
        due("come", x.come(0, 0), 6);
        long digits = 0;
        for (int minute = 0; minute < 6; minute++) {
            digits = 10 * digits + x.set(0, 10 * minute, 0);
        }
        due("copy " + i + " to " + j + " of " + n, digits, want);
    }

    private static void copies() {
        says("Promise 22: n numbers of a SHEET, from item i on, come to another one's item j on (as they were): n");
        copied(0, 1, 5, 112345);
        copied(1, 0, 5, 234566);
        copied(0, 0, 6, 123456);
        copied(0, 0, 0, 123456);
        copied(6, 6, 0, 123456);
        copied(6, 0, 0, 123456);
        copied(0, 5, 1, 123451);
        copied(5, 0, 1, 623456);
        copied(2, 3, 2, 123346);
        for (int sort = 0; sort < 3; sort++) {
            LanesTurn x = with(5, 1, 0);
            x.sheet(0, sort, 60);
            x.sheet(3, sort, 60);
            x.cell(0, 59, -2);
            for (int minute = 0; minute < 59; minute++) {
                x.cell(0, minute, -1);
            }
            due("all 60", x.copy(0, 0, 3, 0, 60), 60);
            due("below 0, too", x.judge(3), 59);
            due("of none", x.sheet(1, sort, 0), 1);
            due("of none", x.copy(1, 0, 1, 0, 0), 0);
            due("of none", x.copy(1, 0, 0, 60, 0), 0);
            due("of none", x.copy(1, 0, 0, 0, 1), OUTSIDE);
            due("to none", x.copy(0, 0, 1, 0, 1), OUTSIDE);
        }
    }

    private static void lanesByRows() {
        says("Promise 23: LANES by a SHEET from one on, three by three, n of them (0 .. 8): how many came");
        for (int sort = 0; sort < 3; sort++) {
            LanesTurn x = new LanesTurn();
            due("sheet", x.sheet(sort, sort, 25), 1);
            for (int i = 0; i < 8; i++) {
                x.cell(sort, 1 + 3 * i, i % 6);
                x.cell(sort, 2 + 3 * i, 20 - i);
                x.cell(sort, 3 + 3 * i, i % 2);
            }
            due("none", x.lanes(sort, sort, 1, 0), 0);
            due("none", x.count(0), 0);
            due("one", x.lanes(sort, sort, 22, 1), 1);
            due("the last of the SHEET", x.told(0, 1, 0), 13);
            due("8: 7 have room, others are left out", x.lanes(sort, sort, 1, 8), 7);
            due("8", x.count(0), 8);
            due("the first of the SHEET", x.told(1, 1, 0), 20);
            due("KIND", x.told(7, 0, 0), 0);
            due("NUMBER", x.told(7, 1, 0), 14);
            due("WAY", x.told(6, 2, 0), 1);
            due("none has room", x.lanes(sort, sort, 1, 8), 0);
        }
        LanesTurn y = new LanesTurn();
        due("all 8", y.sheet(0, 0, 24) * 10 + y.lanes(0, 0, 0, 8), 18);
        LanesTurn none = new LanesTurn();
        due("of a SHEET of none", none.sheet(0, 0, 0) + none.lanes(0, 0, 0, 0), 1);
        due("of a SHEET of none", none.lanes(0, 0, 0, 1), OUTSIDE);
    }

    private static void lanesLeftOut() {
        says("Promise 23: (as of lane()); others are left out");
        int[][] others = {{-1, 0, 0}, {6, 0, 0}, {0, -1, 0}, {0, 21, 0}, {0, 0, -1}, {0, 0, 2}};
        for (int[] o : others) {
            LanesTurn x = new LanesTurn();
            row(x, 0, 1, 5, 20, 1, o[0], o[1], o[2], 0, 0, 0);
            due("two came", x.lanes(0, 1, 0, 3), 2);
            due("two are there", x.count(0), 2);
            due("the first", x.told(0, 1, 0), 20);
            due("the third", x.told(1, 1, 0), 0);
        }
    }

    private static void lanesAhead() {
        says("Promise 23: -12: what stood ahead came");
        for (int size = 0; size <= 9; size++) {
            LanesTurn x = new LanesTurn();
            due("sheet", x.sheet(0, 0, size), 1);
            due("three of " + size, x.lanes(0, 0, 0, 3), size == 9 ? 3 : OUTSIDE);
            due("what stood ahead of " + size, x.count(0), size / 3);
        }
        LanesTurn y = new LanesTurn();
        row(y, 0, 0, 0, 9, 1, 0, 8, 0);
        due("from 1 on two: 9 is no KIND", y.lanes(0, 0, 1, 2), OUTSIDE);
        due("none came", y.count(0), 0);
        due("from 3 on two", y.lanes(0, 0, 3, 2), OUTSIDE);
        due("one came", y.count(0) * 10 + y.told(0, 1, 0), 18);
    }

    private static void allCalls() {
        says("An object is used for at most 512 calls after it has been made");
        LanesTurn x = new LanesTurn();
        int was = 0;
        for (int call = 0; call < 512; call++) {
            due("call " + call, x.set(0, 591, call % 100), was);
            was = call % 100;
        }
    }

    public static void main(String[] args) {
        imageOfAll();
        imageOfStops();
        countsOfAll();
        comersBySheet();
        sheetBounds();
        wrappedCells();
        copies();
        lanesByRows();
        lanesLeftOut();
        lanesAhead();
        allCalls();
        end();
    }
}

/** For each promise of the document: ordinary calls, the edges that it names, and wrong ones, reckoned by hand. */
public final class LanesTurnPromises extends Calls {
    private static void newObject() {
        says("1 A new object");
        LanesTurn x = new LanesTurn();
        int[] counts = {0, 0, 0, 0, 1, 0, 0, 2};
        for (int what = 0; what < 8; what++) {
            due("count(" + what + ")", x.count(what), counts[what]);
        }
        due("waited(60, 4)", x.waited(60, 4), 0);
        due("judge(3)", x.judge(3), MISSING);
        due("back()", x.back(), STATE);
        due("told(0, 0, 0)", x.told(0, 0, 0), BAD);
        due("NONE", LanesTurn.NONE, NONE);
        due("BAD", LanesTurn.BAD, BAD);
        due("STATE", LanesTurn.STATE, STATE);
        due("FULL", LanesTurn.FULL, FULL);
        due("NO", LanesTurn.NO, NO);
    }

    private static void lane() {
        says("2 lane");
        LanesTurn x = new LanesTurn();
        int[][] wrongs = {{-1, 0, 0}, {6, 0, 0}, {0, -1, 0}, {0, 21, 0}, {0, 0, -1}, {0, 0, 2}, {LEAST, MOST, MOST}};
        for (int[] w : wrongs) {
            due("lane", x.lane(w[0], w[1], w[2]), BAD);
        }
        due("count(0)", x.count(0), 0);
        for (int i = 0; i < 8; i++) {
            due("lane", x.lane(i % 6, i == 0 ? 0 : 20, i % 2), i);
        }
        due("lane: a ninth", x.lane(0, 0, 0), FULL);
        due("lane: BAD ahead of FULL", x.lane(0, 21, 0), BAD);
        due("count(0)", x.count(0), 8);
        due("told(7, 0, 0)", x.told(7, 0, 0), 1);
        due("told(0, 1, 0)", x.told(0, 1, 0), 0);
    }

    private static void set() {
        says("3 set");
        LanesTurn x = new LanesTurn();
        due("COMERS", x.set(0, 0, 99), 0);
        due("COMERS", x.set(0, 0, 7), 99);
        due("COMERS home, last", x.set(0, 591, 3), 0);
        due("BUSES", x.set(1, 591, 99), 0);
        due("BUSES", x.set(1, 591, 1), 99);
        due("EMPTY, when does not matter", x.set(2, LEAST, 9), 2);
        due("EMPTY", x.set(2, 777, 0), 9);
        due("count(2)", x.count(2), 7);
        due("count(3)", x.count(3), 3);
        due("count(7)", x.count(7), 0);
        int[][] wrongs = {{-1, 0, 0}, {3, 0, 0}, {0, -1, 0}, {0, -10, 0}, {0, 2, 0}, {0, 9, 0}, {0, 592, 0}, {0, 600, 0},
            {1, 601, 0}, {0, 0, -1}, {0, 0, 100}, {1, 0, 100}, {1, 0, -1}, {2, 0, 10}, {2, 0, -1}, {0, MOST, 0}};
        for (int[] w : wrongs) {
            due("set " + w[0] + " " + w[1] + " " + w[2], x.set(w[0], w[1], w[2]), BAD);
        }
        due("COMERS as they were", x.set(0, 0, 0), 7);
        LanesTurn y = with(2, 20, 0);
        y.set(0, 0, 5);
        y.set(1, 0, 9);
        due("no more BUSES than come", y.day(1, -1, 3), 5);
    }

    private static void come() {
        says("4 come");
        LanesTurn x = new LanesTurn();
        row(x, 0, 2, 1, 99, 0, 100, 5);
        x.set(0, 40, 50);
        due("ends at 100", x.come(0, 0), 3);
        due("what is behind stays", x.count(2), 150);
        row(x, 0, 0, 4, 200, 5);
        due("a byte below 0 is none such", x.come(1, 0), 1);
        due("count(3)", x.count(3), 4);
        due("sheet of 60", x.sheet(1, 1, 60), 1);
        due("all MINUTES", x.come(0, 1), 60);
        due("count(2)", x.count(2), 0);
        due("sheet of none", x.sheet(1, 1, 0), 1);
        due("none told", x.come(0, 1), 0);
        due("way", x.come(2, 0), BAD);
        due("way ahead of missing", x.come(-1, 2), BAD);
        due("SHEET", x.come(0, 4), BAD);
        due("SHEET", x.come(0, -1), BAD);
        due("missing", x.come(1, 2), MISSING);
    }

    private static void stop() {
        says("5 stop");
        LanesTurn x = with(0, 3, 0, 0, 1, 0);
        come(x, 0, 4, 4, 4, 4, 4);
        due("nobody waits", x.waited(5, -1), 0);
        due("stop", x.stop(0, 1, 2), 1);
        due("both counted: 3, 6, 6, 6", x.waited(5, -1), 21);
        due("one STOP at most", x.stop(1, 4, 4), 1);
        due("1 in the last", x.waited(5, -1), 1);
        int[][] wrongs = {{2, 0, 0}, {-2, 0, 0}, {0, -1, 0}, {0, 0, 60}, {0, 3, 2}, {0, 60, 60}, {LEAST, MOST, LEAST}};
        for (int[] w : wrongs) {
            due("stop " + w[0] + " " + w[1] + " " + w[2], x.stop(w[0], w[1], w[2]), BAD);
        }
        due("as it was", x.waited(5, -1), 1);
        due("from NONE", x.stop(-1, 0, 0), 1);
        due("there is none", x.waited(5, -1), 0);
        stopOfNone(x);
        due("the last MINUTE", x.stop(0, 59, 59), 1);
        due("the last MINUTE", x.waited(59, -1), 0);
        due("all MINUTES", x.stop(0, 0, 59), 1);
        due("3, 6, 9, 12, 15", x.waited(5, -1), 45);
    }

    /** Lane NONE, whatever from and to are: a STOP that was is gone; x waits 1 with the STOP that is laid here, else 0. */
    private static void stopOfNone(LanesTurn x) {
        int[][] any = {{2, 0}, {0, 60}, {-1, 0}, {60, 60}, {LEAST, MOST}, {MOST, LEAST}, {59, 59}, {0, 59}};
        for (int[] a : any) {
            due("a STOP", x.stop(1, 4, 4), 1);
            due("it is there", x.waited(5, -1), 1);
            due("stop -1 " + a[0] + " " + a[1], x.stop(NONE, a[0], a[1]), 1);
            due("it is gone", x.waited(5, -1), 0);
        }
        due("no LANES", new LanesTurn().stop(NONE, 2, 0), 1);
        due("-2 is not NONE", x.stop(BAD, 0, 0), BAD);
        x.stop(1, 4, 4);
        x.image();
        due("of NONE ahead of back()", x.stop(NONE, 9, 3), 1);
        x.back();
        due("THE IMAGE has it", x.waited(5, -1), 1);
        due("of NONE", x.stop(NONE, 9, 3), 1);
        x.image();
        x.stop(1, 4, 4);
        x.back();
        due("THE IMAGE has none", x.waited(5, -1), 0);
    }

    private static void told() {
        says("6 told");
        LanesTurn x = with(0, 5, 0, 1, 5, 1, 2, 5, 0, 3, 5, 1, 4, 5, 0, 5, 5, 1);
        int[] carries = {5, 7, 5, 4, 5, 5};
        int[] rests = {2, 3, 2, 3, 4, 2};
        int[] mayTurn = {1, 1, 1, 1, 0, 0};
        for (int i = 0; i < 6; i++) {
            due("KIND", x.told(i, 0, LEAST), i);
            due("NUMBER", x.told(i, 1, MOST), 5);
            due("WAY", x.told(i, 2, -7), i % 2);
            due("RESTS", x.told(i, 3, 60), rests[i]);
            due("MAY TURN in 4", x.told(i, 4, 4), mayTurn[i]);
            due("MAY TURN in 55", x.told(i, 4, 55), i < 5 ? 1 : 0);
            due("CARRIES", x.told(i, 5, 9), carries[i]);
        }
        due("MAY TURN in 59", x.told(0, 4, 59), 1);
        due("SLOW of 10", x.told(4, 5, 10), 4);
        due("SLOW of 49", x.told(4, 5, 49), 1);
        due("SLOW of 60, 0 at least", x.told(4, 5, 60), 0);
        due("SLOW of 9999", x.told(4, 5, 9999), 0);
        due("LANE of 9999", x.told(0, 5, 9999), 5);
        x.lane(3, 4, 0);
        due("SHORT of 4: 6 by 2", x.told(6, 5, 0), 3);
        x.set(2, 0, 0);
        due("WIDE, EMPTY 0", x.told(1, 3, 0), 1);
        due("SLOW, EMPTY 0", x.told(4, 3, 0), 0);
        x.set(2, 0, 9);
        due("SLOW, EMPTY 9", x.told(4, 3, 0), 18);
        int[][] wrongs = {{7, 0, 0}, {-1, 0, 0}, {0, -1, 0}, {0, 6, 0}, {0, 4, -1}, {0, 4, 60}, {0, 5, -1}, {0, 5, 10000}};
        for (int[] w : wrongs) {
            due("told " + w[0] + " " + w[1] + " " + w[2], x.told(w[0], w[1], w[2]), BAD);
        }
    }

    private static void feeds() {
        says("7 feed");
        LanesTurn x = new LanesTurn();
        due("n", x.feed(0, 0), BAD);
        due("n", x.feed(9, 0), BAD);
        due("n", x.feed(LEAST, 0), BAD);
        due("1", x.feed(1, 't' | 255 << 8), 1);
        due("the lowest first", x.feed(3, 'u' | 'r' << 8 | 'n' << 16 | 'x' << 24), 4);
        feed(x, " 1;pain 1;more 0;");
        due("it is a TEXT", x.text(), 1);
        for (int i = 1; i <= 19; i++) {
            due("8 more", x.feed(8, -1L), 8 * i);
        }
        due("7 more", x.feed(7, 0), 159);
        due("no room for 2", x.feed(2, 0), FULL);
        due("BAD ahead of FULL", x.feed(9, 0), BAD);
        due("count(5)", x.count(5), 159);
        due("room for 1", x.feed(1, 0), 160);
        due("FULL", x.feed(1, 0), FULL);
        due("byte 255 begins none", x.text(), -100);
        due("count(5)", x.count(5), 0);
    }

    private static void fault(String tape, int place) {
        LanesTurn x = new LanesTurn();
        due("text() of '" + tape + "'", text(x, tape), -100 - place);
        due("THE TAPE is empty", x.count(5), 0);
        due("TEXTS", x.count(4), 1);
    }

    private static void faultOfE(String e, int place) {
        fault("turn " + e + ";pain 1;more 0;", 5 + place);
    }

    private static void good(String tape) {
        LanesTurn x = new LanesTurn();
        due("text() of '" + tape + "'", text(x, tape), 1);
        due("THE TAPE is empty", x.count(5), 0);
    }

    private static void goodE(String e) {
        good("turn " + e + ";pain 1;more 0;");
    }

    private static void texts() {
        says("8 text");
        good("turn wait - 30 ; pain 1 ; more 0 ;");
        good("\n turn1;pain1;more0 ;\n\n");
        goodE("9999");
        goodE("0000");
        goodE("1 or 2 and not 3 < 4 * - 5");
        goodE("not not not not not 1");
        goodE("- - - - - wait");
        goodE("(((((1)))))");
        goodE("(((((1)))))+(((((1)))))*-----1");
        goodE("not(not(-1))<2 or not(not(-1))");
        goodE("1--1");
        goodE("(((((1-1 or 2<3 and 4)))))");
        goodE("wait+lanes*minute-side<bus and empty=1");
        fault("", 0);
        fault("  ", 2);
        fault("turn 1;pain 1;more 0", 20);
        fault("turn 1;pain 1;more 0 \n", 22);
        fault("turn 1;pain 1;more 0;;", 21);
        fault("turn 1;pain 1;more 0; turn", 22);
        fault("pain 1;", 0);
        fault("turn 1;more 0;pain 1;", 7);
        fault("Turn 1;", 0);
        fault("turns 1;", 0);
        fault("turn 1 pain", 7);
        faultOfE("", 0);
        faultOfE("12345", 0);
        faultOfE("1 + 12345", 4);
        faultOfE("waits", 0);
        faultOfE("xait", 0);
        faultOfE("waitz", 0);
        faultOfE("wait2", 4);
        faultOfE("2wait", 1);
        faultOfE("turn", 0);
        faultOfE("1 @", 2);
        faultOfE("1 \t", 2);
        faultOfE("1 \u0000", 2);
        faultOfE("1 \u00e9", 2);
        faultOfE("1<2<3", 3);
        faultOfE("1=2=3", 3);
        faultOfE("1 < not 2", 4);
        faultOfE("1 + not 2", 4);
        faultOfE("not", 3);
        faultOfE("(1", 2);
        faultOfE("1)", 1);
        faultOfE("()", 1);
        faultOfE("1 or", 4);
        faultOfE("and 1", 0);
        faultOfE("1 + + 1", 4);
        faultOfE("((((((1))))))", 5);
        faultOfE("- - - - - - 1", 10);
        faultOfE("not not not not not not 1", 20);
        faultOfE("not ( - ( not ( 1 ) ) )", 14);
        faultOfE("(((((-1)))))", 5);
        faultOfE("(((((not 1)))))", 5);
        faultOfE("(((((1 + not 1)))))", 9);
        faultOfE("(((((1)))))+((((((1))))))", 17);
        faultOfE("not 1 < (((((1)))))", 12);
        LanesTurn x = new LanesTurn();
        for (int i = 1; i <= 5; i++) {
            due("text()", text(x, "turn 1;pain 1;more 0;"), i);
        }
        due("count(4)", x.count(4), 6);
        due("feed", feed(x, "turn?"), 5);
        due("no TEXT more", x.text(), FULL);
        due("THE TAPE stays", x.count(5), 5);
    }

    private static void rules() {
        says("9 force");
        LanesTurn x = new LanesTurn();
        due("none such", x.force(1), BAD);
        due("none such", x.force(-1), BAD);
        due("TEXT 0", x.force(0), 0);
        text(x, "turn 0;pain 7;more 1;");
        due("a new one is not THE RULE", x.count(6), 0);
        due("force(1)", x.force(1), 0);
        due("pain and more of it: 2 and 4 wait", x.waited(2, -1), 42);
        due("force(0)", x.force(0), 1);
        due("of TEXT 0", x.waited(2, -1), 0);
        due("none such", x.force(2), BAD);
    }

    /** What an E comes to for way 0 in MINUTE 0: told by how many come. */
    private static void comesTo(String e, int want) {
        LanesTurn x = rule(with(0, 0, 0, 0, 0, 0, 0, 0, 1), "turn 0;pain 1;more " + e + ";");
        due("E " + e, x.day(1, -1, 0), want);
    }

    private static void reckoned() {
        says("10 waited: texts");
        comesTo("2 + 3 * 4", 14);
        comesTo("(2 + 3) * 4", 20);
        comesTo("9 - 3 - 2", 4);
        comesTo("- 3 + 5", 2);
        comesTo("- 3 * - 5", 15);
        comesTo("10 * (2 < 3)", 10);
        comesTo("10 * (3 < 3)", 0);
        comesTo("10 * (3 = 3)", 10);
        comesTo("10 * (not 0)", 10);
        comesTo("10 * (not 7)", 0);
        comesTo("10 * (not 3 < 2)", 10);
        comesTo("0 and 1 or 5", 1);
        comesTo("5 or 0 and 0", 1);
        comesTo("3 and 5", 1);
        comesTo("7", 7);
        comesTo("100", 99);
        comesTo("0 - 5", 0);
        comesTo("9999 * 9999 * 22", 0);
        comesTo("9999 * 9999 * 43 - 417 * 9999 - 3157", 7);
        comesTo("lanes", 2);
        comesTo("empty", 2);
        comesTo("side", 0);
        comesTo("minute + 1", 1);
    }

    private static void waited() {
        says("10 waited");
        LanesTurn x = with(0, 3, 0, 0, 2, 1);
        come(x, 0, 10, 0, 5);
        come(x, 1, 2, 4, 0);
        due("7", x.waited(1, -1), 7);
        due("7 + 4 and 2", x.waited(2, -1), 13);
        due("+ 6 and 0", x.waited(3, -1), 19);
        row(x, 0, 0, 1, -1, 1);
        due("by a PLAN: 7 and 2; 4 and 6; 6 and 6", x.waited(3, 0), 31);
        row(x, 1, 2, -1, 1);
        due("behind its end none: 7, 0; 4, 4; 6, 4", x.waited(3, 1), 25);
        due("n", x.waited(0, -1), NO);
        due("n", x.waited(61, -1), NO);
        due("n 60", x.waited(60, -1) > 0 ? 1 : 0, 1);
        due("by", x.waited(1, -2), NO);
        due("by", x.waited(1, 5), NO);
        due("missing", x.waited(1, 2), NO);
        rule(x, "turn 0 ; pain side + 1 ; more 0 ;");
        due("pain of each WAY, twice at home: 7 and 0, 4 and 4", x.waited(2, -1), 15);
        rule(x, "turn 0 ; pain 100 ; more 0 ;");
        due("99 at most", x.waited(1, -1), 693);
        rule(x, "turn 0 ; pain - 1 ; more 0 ;");
        due("0 at least", x.waited(3, -1), 0);
        rule(x, "turn 0 ; pain wait ; more 0 - 3 ;");
        due("as it ends; less come: 7, 4; 4, 1, 2 from home: 16 + 1", x.waited(2, -1), 17);
        rule(x, "turn 0 ; pain 1 ; more wait ;");
        due("more as the MINUTE begins: 7; 11 and 2 with 4 + 0 come", x.waited(2, -1), 7 + 11 + 2);
    }

    private static void day() {
        says("11 day");
        LanesTurn x = with(0, 4, 0, 2, 3, 0, 0, 1, 0, 4, 3, 1, 0, 2, 1);
        x.set(0, 0, 20);
        x.set(1, 0, 2);
        x.set(0, 1, 30);
        x.set(1, 1, 10);
        due("out: 4, 2 buses, 1", x.day(1, -1, 0), 13);
        due("home: SLOW takes 3 - 3, then 2", x.day(1, -1, 1), 28);
        due("home: 28 wait, SLOW 1 bus, 2", x.day(2, -1, 1), 25);
        due("CARRIED", x.day(2, -1, 3), 9 + 3 + 5);
        due("WAYS", x.day(1, -1, 4), 0b11000);
        due("TURNS", x.day(1, -1, 2), 0);
        LanesTurn y = with(0, 5, 0, 2, 5, 0);
        y.set(0, 0, 8);
        y.set(1, 0, 4);
        due("buses last: 4 and 1 bus, then 3 buses", y.day(1, -1, 0), 0);
        y.set(1, 0, 1);
        due("7 and 1 bus: 5, then 1 bus", y.day(1, -1, 0), 2);
        LanesTurn z = with(0, 1, 0, 0, 1, 0, 0, 1, 1);
        row(z, 0, 0, 1, 1, 1, 1, 0);
        due("it RESTS in 0 and 1, turns in 0 and 2", z.day(4, 0, 2), 2);
        due("WAYS", z.day(2, 0, 4), 0b110);
        due("WAYS", z.day(4, 0, 4), 0b100);
        due("WAYS", z.day(5, 0, 4), 0b101);
        come(z, 1, 2, 2, 2);
        due("RESTS in 0 and 1, turned back in 2: 1 each", z.day(3, 0, 3), 3);
        z.set(2, 0, 0);
        due("EMPTY 0: 2, 1, 2", z.day(3, 0, 3), 5);
        due("EMPTY 0: every MINUTE", z.day(4, 0, 2), 4);
        z.stop(1, 0, 1);
        due("STOPPED it turns, and carries nobody: 1, 1, 2", z.day(3, 0, 3), 4);
        int[][] wrongs = {{0, -1, 0}, {61, -1, 0}, {1, -2, 0}, {1, 5, 0}, {1, -1, -1}, {1, -1, 5}, {0, 1, 0}, {1, 1, 5}};
        for (int[] w : wrongs) {
            due("day " + w[0] + " " + w[1] + " " + w[2], z.day(w[0], w[1], w[2]), BAD);
        }
        due("missing", z.day(1, 1, 0), MISSING);
        byRule();
    }

    private static void byRule() {
        LanesTurn x = with(0, 0, 0, 5, 0, 0, 4, 0, 0, 0, 0, 1);
        rule(x, "turn side ; pain 1 ; more 0 ;");
        due("in 0 the greatest that may: SLOW", x.day(1, 4, 4), 0b1100);
        due("in 1 the LANE", x.day(2, 4, 4), 0b1101);
        due("then one is left out, it stays", x.day(60, 4, 4), 0b1101);
        rule(x, "turn 1 ; pain 1 ; more 0 ;");
        due("of like ones 0, but one alone is home", x.day(60, 4, 2), 0);
        rule(x, "turn 1 - side * 2 ; pain 1 ; more 0 ;");
        due("out", x.day(1, 4, 2), 0);
        rule(x, "turn 0 - side ; pain 1 ; more 0 ;");
        due("not above 0", x.day(60, 4, 2), 0);
        LanesTurn y = with(0, 0, 0, 0, 0, 1, 0, 0, 1, 0, 0, 1);
        rule(y, "turn 1 ; pain 1 ; more 0 ;");
        due("of like ones 0: the greatest comes out, then another", y.day(2, 4, 4), 0b0010);
        due("of like ones 0, whatever comes", y.day(9, 4, 2), 2);
        LanesTurn z = with(0, 0, 0, 0, 0, 1, 0, 0, 1);
        z.set(0, 0, 31);
        due("TEXT 0: 31 wait, the last comes out", z.day(1, 4, 4), 0b010);
        z.set(0, 0, 30);
        due("TEXT 0: 30 wait", z.day(1, 4, 4), 0b110);
        LanesTurn w = with(0, 0, 0, 0, 0, 1, 0, 0, 1, 0, 0, 1);
        rule(w, "turn minute < 1 and side = 0 or 0 < minute and side ; pain 1 ; more 0 ;");
        due("out in 0: 3; home in 1: 0 (3 RESTS)", w.day(2, 4, 4), 0b0111);
        due("in 2 one alone goes out", w.day(3, 4, 2), 2);
    }

    private static void best() {
        says("12 best");
        LanesTurn x = with(0, 2, 0, 0, 2, 0, 0, 2, 1);
        come(x, 1, 4, 4, 4, 4, 4, 4);
        due("nothing turned: 2 + 4 + 6 + 8 + 10 + 12", x.waited(6, -1), 42);
        due("least LANE of like ones", x.best(6, 0), 0);
        due("in 0", x.best(6, 1), 0);
        due("2, 4, 4, 4, 4, 4", x.best(6, 2), 22);
        due("no gain in 2 MINUTES", x.best(2, 0), NONE);
        due("no gain", x.best(2, 1), NONE);
        due("ALL WAITED", x.best(2, 2), 6);
        x.set(2, 0, 0);
        due("at once", x.best(1, 0), 0);
        due("at once", x.best(1, 2), 0);
        LanesTurn y = with(5, 2, 0, 4, 9, 0, 0, 0, 1);
        y.set(2, 0, 0);
        for (int m = 0; m < 8; m++) {
            y.set(0, 10 * m + 1, m < 3 ? 0 : 5);
            y.set(1, 10 * m + 1, 5);
        }
        due("a SLOW one", y.best(8, 0), 1);
        due("in 0 of 0 and 5", y.best(8, 1), 0);
        due("SLOW: 9 carries 5", y.best(8, 2), 0);
        due("n 60: RESTS in 5, 0 wait at the end", x.set(0, 591, 9) + x.best(60, 1), 0);
        due("n", y.best(0, 0), NO);
        due("n", y.best(61, 0), NO);
        due("what", y.best(5, 3), NO);
        due("what", y.best(5, -1), NO);
        due("no LANES", new LanesTurn().best(60, 1), NONE);
        LanesTurn z = with(0, 5, 0, 0, 0, 1);
        z.set(2, 0, 0);
        come(z, 0, 5, 0, 0, 0);
        come(z, 1, 0, 0, 3, 3);
        due("least MINUTE of like ones", z.best(4, 1), 1);
    }

    private static void two() {
        says("13 two");
        LanesTurn x = with(0, 5, 0, 0, 5, 0, 0, 0, 1);
        x.set(2, 0, 1);
        come(x, 0, 9, 0, 0, 0, 9);
        come(x, 1, 0, 0, 4, 0, 0);
        due("LANE", x.two(5, 0), 0);
        due("first MINUTE", x.two(5, 1), 1);
        due("later one", x.two(5, 2), 3);
        due("ALL WAITED", x.two(5, 3), 0);
        due("not RESTING: EMPTY 2", x.set(2, 0, 2), 1);
        due("in two MINUTES it can't", x.two(2, 0), NONE);
        due("there is none", x.two(2, 3), NONE);
        due("in three it can", x.two(3, 1), 0);
        due("0 and 2", x.two(3, 2), 2);
        LanesTurn y = with(4, 5, 0);
        y.set(2, 0, 3);
        due("SLOW: 0 and 5, but it RESTS 6", y.two(10, 0), NONE);
        due("0 and 10", y.two(11, 2), 10);
        y.set(2, 0, 2);
        due("RESTS 4", y.two(6, 2), 5);
        due("FIXED", with(5, 5, 0).two(12, 0), NONE);
        due("no LANES", new LanesTurn().two(12, 3), NONE);
        due("n", x.two(1, 0), NO);
        due("n", x.two(13, 0), NO);
        due("what", x.two(5, -1), NO);
        due("what", x.two(5, 4), NO);
        x.set(2, 0, 0);
        for (int m = 0; m < 5; m++) {
            x.set(0, 10 * m, 0);
            x.set(0, 10 * m + 1, 0);
        }
        due("of like ones the least LANE", x.two(5, 0), 0);
        due("then the first MINUTE", x.two(5, 1), 0);
        due("then the later one", x.two(5, 2), 1);
    }

    private static void enough() {
        says("14 enough");
        LanesTurn x = with(0, 3, 0, 0, 1, 1);
        come(x, 0, 10, 10, 30);
        due("10: 3 and 5 and 5", x.enough(1, 0), 2);
        due("10 and 10", x.enough(2, 0), 2);
        due("30: 27 by 5", x.enough(3, 0), 6);
        due("30 in two MINUTES: 27 by 5, 5", x.enough(4, 0), 3);
        due("0", x.enough(3, 1), 0);
        due("n", x.enough(0, 0), BAD);
        due("n", x.enough(61, 0), BAD);
        due("way", x.enough(1, 2), BAD);
        due("way", x.enough(1, -1), BAD);
        LanesTurn y = rule(new LanesTurn(), "turn 1 ; pain 1 ; more 99 ;");
        y.set(0, 0, 2);
        due("101 come, 100 at most", y.enough(1, 0), NONE);
        y.set(0, 0, 1);
        due("100 come", y.enough(1, 0), 20);
        due("n 60", y.enough(60, 1), 20);
    }

    private static void worth() {
        says("15 worth");
        LanesTurn x = with(0, 3, 0, 0, 1, 0, 0, 9, 1);
        come(x, 0, 4, 4, 4);
        due("3, 6, 9", x.worth(3, 0), 18);
        due("1, 2, 3", x.worth(3, 1), 6);
        due("nothing", x.worth(3, 2), 0);
        x.stop(1, 0, 0);
        due("beside the STOP: 4, 7, 10 less 1, 1, 1", x.worth(3, 0), 18);
        due("0 + 2, 1 + 2, 1 + 3: 1, 2, 3 less 1, 1, 1", x.worth(3, 1), 3);
        due("n", x.worth(0, 0), NO);
        due("n", x.worth(61, 0), NO);
        due("LANE", x.worth(1, 3), NO);
        due("LANE", x.worth(1, -1), NO);
        LanesTurn y = rule(with(2, 9, 0), "turn 0 ; pain 1 - bus ; more 0 ;");
        y.set(0, 0, 2);
        y.set(1, 0, 1);
        due("pain falls with buses: 0 less 1", y.worth(1, 0), -1);
        due("it is not kept", y.waited(1, -1), 1);
    }

    private static void judge() {
        says("16 judge");
        LanesTurn x = with(0, 1, 0, 5, 1, 0, 4, 1, 0, 1, 1, 0);
        row(x, 0, 1, -1, 0, 3, 0);
        due("RESTS in 1 and 2, told in 3", x.judge(0), NONE);
        row(x, 0, 1, -1, 0, 0);
        due("RESTS in 2", x.judge(0), 2);
        row(x, 0, 1, 3, -1, 3);
        due("a WIDE one RESTS in 2", x.judge(0), 2);
        row(x, 0, 1, 3, -1, -1, 3);
        due("not in 3", x.judge(0), NONE);
        row(x, 0, 1, -1, 4);
        due("isn't there", x.judge(0), 1);
        row(x, 0, 2, -1, -1, -2);
        due("isn't there", x.judge(0), 2);
        row(x, 0, 1, -1, -1, 1);
        due("FIXED", x.judge(0), 2);
        row(x, 0, 1, 2, -1, -1, -1, -1, 2);
        due("SLOW in 0 and 5", x.judge(0), NONE);
        row(x, 0, 1, 2, 2);
        due("SLOW in 1", x.judge(0), 1);
        x.set(2, 0, 3);
        row(x, 0, 1, 2, -1, -1, -1, -1, 2);
        due("SLOW RESTS 6", x.judge(0), 5);
        x.set(2, 0, 0);
        row(x, 0, 0, 0, 0, 0, 0);
        due("EMPTY 0", x.judge(0), NONE);
        due("none told", x.sheet(0, 0, 0) + x.judge(0), 0);
        due("all 60", x.sheet(0, 0, 60), 1);
        due("all 60", x.judge(0), NONE);
        due("missing", x.judge(1), MISSING);
        due("SHEET", x.judge(4), BAD);
        due("SHEET", x.judge(-1), BAD);
    }

    private static void images() {
        says("17 image, 18 back");
        LanesTurn x = with(0, 2, 0);
        due("there is none", x.back(), STATE);
        x.set(0, 0, 9);
        x.set(1, 0, 5);
        x.stop(0, 1, 1);
        text(x, "turn 0;pain 2;more 0;");
        due("image()", x.image(), 1);
        long due = x.waited(2, -1);
        due("7 and 7", due, 14);
        x.set(0, 0, 1);
        x.set(0, 591, 44);
        x.set(1, 0, 1);
        x.set(2, 0, 8);
        x.stop(-1, 0, 0);
        x.force(1);
        feed(x, "abc");
        x.sheet(0, 0, 3);
        x.lane(0, 0, 1);
        due("back()", x.back(), 2);
        due("COMERS out", x.count(2), 9);
        due("COMERS home", x.count(3), 0);
        due("EMPTY", x.count(7), 2);
        due("THE RULE", x.count(6), 0);
        due("TEXTS stay", x.count(4), 2);
        due("THE TAPE stays", x.count(5), 3);
        due("LANES stay", x.count(0), 2);
        due("SHEETS stay", x.judge(0), 1);
        due("the STOP", x.waited(2, -1), due);
        due("BUSES", x.set(1, 0, 0), 5);
        due("once more", x.back(), 2);
        due("THE IMAGE is not changed", x.set(1, 0, 0), 5);
        due("another one", x.image(), 2);
        x.set(1, 0, 7);
        due("back()", x.back(), 2);
        due("of the last", x.set(1, 0, 0), 0);
    }

    private static void counts() {
        says("19 count");
        LanesTurn x = with(0, 1, 1, 0, 1, 0, 5, 1, 1);
        x.set(0, 0, 9);
        x.set(0, 590, 8);
        x.set(0, 11, 5);
        x.set(2, 0, 4);
        text(x, "turn 1;pain 1;more 0;");
        text(x, "turn 1;pain 1;more 0;");
        x.force(2);
        feed(x, "xy");
        int[] counts = {3, 2, 17, 5, 3, 2, 2, 4};
        for (int what = 0; what < 8; what++) {
            due("count(" + what + ")", x.count(what), counts[what]);
        }
        due("what", x.count(-1), BAD);
        due("what", x.count(8), BAD);
    }

    private static void sheets() {
        says("20 sheet");
        LanesTurn x = new LanesTurn();
        due("none of any", x.sheet(3, 2, 0), 1);
        due("cell", x.cell(3, 0, 1), OUTSIDE);
        due("60", x.sheet(3, 2, 60), 1);
        due("cell", x.cell(3, 59, 1), 1);
        due("again all 0", x.sheet(3, 2, 60), 1);
        due("0 is no COMER", x.come(0, 3) + x.count(2), 60);
        due("no such", x.sheet(4, 0, 1), BAD);
        due("no such", x.sheet(-1, 0, 1), BAD);
        due("sort", x.sheet(0, 3, 1), BAD);
        due("sort", x.sheet(0, -2, 1), BAD);
        due("n", x.sheet(0, 0, 61), BAD);
        due("below 0", x.sheet(0, 0, -1), BELOW_0);
        due("sort ahead", x.sheet(0, 3, -1), BAD);
        due("refusals change nothing", x.judge(0), MISSING);
        due("refusals change nothing", x.cell(3, 59, 1), 1);
        due("missing", x.sheet(3, -1, MOST), 1);
        due("missing", x.sheet(3, -1, LEAST), 1);
        due("cell", x.cell(3, 0, 1), MISSING);
    }

    private static void cells() {
        says("21 cell");
        LanesTurn x = new LanesTurn();
        due("no such", x.cell(4, 0, 0), BAD);
        due("no such", x.cell(-1, 0, 0), BAD);
        due("missing", x.cell(0, -1, 0), MISSING);
        row(x, 0, 0, 256 + 7, 128);
        due("of bytes the lowest 8 bits", x.come(0, 0), 1);
        due("7", x.count(2), 7);
        row(x, 1, 1, 65536 + 8, 32768);
        due("of shorts the lowest 16 bits", x.come(0, 1), 1);
        due("8", x.count(2), 8);
        row(x, 2, 2, 9, 65536);
        due("of ints all", x.come(0, 2), 1);
        due("9", x.count(2), 9);
        due("outside", x.cell(0, 2, 0), OUTSIDE);
        due("outside", x.cell(0, -1, 0), OUTSIDE);
        due("outside", x.cell(0, MOST, 0), OUTSIDE);
    }

    private static void copies() {
        says("22 copy");
        LanesTurn x = new LanesTurn();
        row(x, 0, 1, 1, 2, 3, 4);
        row(x, 1, 1, 0, 0, 0);
        row(x, 2, 0, 0, 0, 0);
        due("2 of 0 to 1", x.copy(0, 2, 1, 1, 2), 2);
        x.come(0, 1);
        due("3 and 4", x.count(2), 7);
        due("of itself, as they were", x.copy(0, 0, 0, 1, 3), 3);
        x.come(0, 0);
        due("1, 1, 2, 3", x.set(0, 30, 0) * 10 + x.set(0, 20, 0), 32);
        due("none", x.copy(0, 4, 1, 3, 0), 0);
        due("no such", x.copy(4, 0, 0, 0, 1), BAD);
        due("no such", x.copy(0, 0, -1, 0, 1), BAD);
        due("missing", x.copy(0, 0, 3, 0, 9), MISSING);
        due("missing", x.copy(3, 0, 2, 0, 9), MISSING);
        due("unlike sorts ahead", x.copy(0, 0, 2, 0, 9), OTHER);
        due("n below 0", x.copy(0, 0, 1, 0, -1), OUTSIDE);
        due("i", x.copy(0, -1, 1, 0, 1), OUTSIDE);
        due("i", x.copy(0, 5, 1, 0, 0), OUTSIDE);
        due("i and n", x.copy(0, 2, 1, 0, 3), OUTSIDE);
        due("j", x.copy(0, 0, 1, -1, 1), OUTSIDE);
        due("j and n", x.copy(0, 0, 1, 1, 3), OUTSIDE);
        due("far", x.copy(0, MOST, 1, MOST, MOST), OUTSIDE);
        due("far", x.copy(0, 1, 1, 1, MOST), OUTSIDE);
    }

    private static void laneRows() {
        says("23 lanes");
        LanesTurn x = new LanesTurn();
        row(x, 0, 0, 9, 0, 5, 0, 6, 0, 0, 4, 20, 1, 1, 1);
        due("one is left out", x.lanes(0, 0, 1, 3), 2);
        due("KIND", x.told(1, 0, 0), 4);
        due("NUMBER", x.told(1, 1, 0), 20);
        due("what stood ahead came", x.lanes(0, 0, 7, 3), OUTSIDE);
        due("count(0)", x.count(0), 3);
        due("nothing came", x.lanes(0, 0, -1, 1), OUTSIDE);
        due("far", x.lanes(0, 0, MOST, 8), OUTSIDE);
        due("n 0", x.lanes(0, 0, 0, 0), 0);
        due("sheet", x.lanes(4, 0, 0, 1), BAD);
        due("sort", x.lanes(0, 3, 0, 1), BAD);
        due("sort", x.lanes(0, -1, 0, 1), BAD);
        due("n", x.lanes(0, 0, 0, 9), BAD);
        due("n", x.lanes(0, 0, 0, -1), BAD);
        due("of another sort", x.lanes(0, 1, 0, 0), OTHER);
        due("missing", x.lanes(1, 1, 0, 0), MISSING);
        due("sheet", x.sheet(1, 2, 24), 1);
        due("FULL: others are left out", x.lanes(1, 2, 0, 8), 5);
        due("none has room", x.lanes(1, 2, 0, 8), 0);
        due("count(0)", x.count(0), 8);
    }

    private static void takens() {
        says("24 taken");
        LanesTurn x = with(0, 10, 0, 1, 11, 0, 2, 12, 0, 3, 13, 0, 4, 14, 0, 5, 15, 0);
        int[] under = {0b000001, 0b000011, 0b000101, 0b001011, 0b010101, 0b100001};
        for (int lane = 0; lane < 6; lane++) {
            for (int k = 0; k < 6; k++) {
                due("taken(" + lane + ", " + k + ")", x.taken(lane, k), (under[lane] >> k & 1) == 1 ? 10 + lane : OTHER);
            }
        }
        due("k", x.taken(0, 6), BAD);
        due("k ahead", x.taken(9, -1), BAD);
        due("no such LANE", x.taken(6, 0), MISSING);
        due("no such LANE", x.taken(-1, 5), MISSING);
    }

    public static void main(String[] args) {
        newObject();
        lane();
        set();
        come();
        stop();
        told();
        feeds();
        texts();
        rules();
        reckoned();
        waited();
        day();
        best();
        two();
        enough();
        worth();
        judge();
        images();
        counts();
        sheets();
        cells();
        copies();
        laneRows();
        takens();
        end();
    }
}

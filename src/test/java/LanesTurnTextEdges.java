/**
 * Each sentence of the document about THE TAPE and TEXTS that names an edge: as long as can be, too long, full, where the
 * FAULT is, what wraps, what is bounded.
 */
public final class LanesTurnTextEdges extends Calls {
    /** What an E comes to (-50 .. 49), told by how many come out in MINUTE 0. */
    private static void comesTo(String e, int want) {
        due(e, ruled("0", "1", "50+(" + e + ")").day(1, -1, 0), 50 + want);
    }

    private static void isTrue(String e) {
        comesTo(e, 1);
    }

    private static void isFalse(String e) {
        comesTo(e, 0);
    }

    private static void fault(String tape, int place) {
        LanesTurn x = new LanesTurn();
        due("text() of '" + tape + "'", text(x, tape), -100 - place);
        due("TEXTS", x.count(4), 1);
        due("THE TAPE", x.count(5), 0);
    }

    private static void good(String tape) {
        LanesTurn x = new LanesTurn();
        due("text() of '" + tape + "'", text(x, tape), 1);
        due("TEXTS", x.count(4), 2);
        due("THE TAPE", x.count(5), 0);
    }

    private static void faultOfE(String e, int place) {
        fault("turn " + e + ";pain 1;more 0;", 5 + place);
    }

    private static void goodE(String e) {
        good("turn " + e + ";pain 1;more 0;");
    }

    private static void tapeOf160() {
        says("A TEXT is read from THE TAPE (160 bytes at most)");
        good("turn 1;pain 1;more 7" + " ".repeat(139) + ";");
        good(" ".repeat(139) + "turn 1;pain 1;more 7;");
        good("turn 1;pain 1;more 7;" + " ".repeat(139));
        fault(" ".repeat(160), 160);
        fault(" ".repeat(159) + "1", 159);
        fault("turn " + "1+".repeat(77) + "1", 160);
        fault("turn " + "1".repeat(155), 5);
        fault(";".repeat(160), 0);
        fault(";".repeat(159) + "1", 0);
        fault(";".repeat(156) + "wait", 0);
        LanesTurn x = rule(new LanesTurn(), "turn 0;pain 1;more " + "1+".repeat(69) + "1 ;");
        due("70 ones in 160 bytes", x.day(1, -1, 0), 70);
    }

    private static void feedsOfEightBytes() {
        says("Promise 7: The n lowest bytes of a number (n 1 .. 8), the lowest first, come behind THE TAPE: how many it has");
        LanesTurn x = new LanesTurn();
        due("8 bytes", x.feed(8, 'm' | (long) 'o' << 8 | (long) 'r' << 16 | (long) 'e' << 24 | (long) ' ' << 32
            | (long) '0' << 40 | (long) ';' << 48 | 255L << 56), 8);
        due("more can't stand first", x.text(), -100);
        due("1 of 8 bytes", x.feed(1, 't' | -1L << 8), 1);
        due("7 bytes", x.feed(7, 'u' | 'r' << 8 | 'n' << 16 | (long) '1' << 24 | (long) ';' << 32 | (long) '1' << 40
            | (long) '2' << 48 | -1L << 56), 8);
        due("12 can't stand behind turn 1;", x.text(), -106);
        for (int i = 1; i <= 20; i++) {
            due("8 bytes", x.feed(8, -1L), 8 * i);
        }
        due("it is full", x.count(5), 160);
        due("byte 255 begins none", x.text(), -100);
        due("8 bytes", x.feed(8, 255L << 56), 8);
        due("byte 0 begins none", x.text(), -100);
    }

    private static void feedsTillFull() {
        says("Promise 7: FULL: the last that has room, and the first that has none");
        for (int n = 1; n <= 8; n++) {
            LanesTurn x = new LanesTurn();
            due("all but n", feed(x, " ".repeat(160 - n)), 160 - n);
            for (int more = n + 1; more <= 8; more++) {
                due(more + " more than has room for " + n, x.feed(more, 0), FULL);
            }
            due("THE TAPE stays", x.count(5), 160 - n);
            due(n + " have room", x.feed(n, 0x2020202020202020L), 160);
            due("1 has none", x.feed(1, 0), FULL);
            due("none of the refused came", x.text(), -260);
        }
    }

    private static void wordsAsLongAsCanBe() {
        says("TOKENS, each as long as can be: WORDS (a .. z); a WORD that is neither KEY nor NAME");
        good("turn1;pain1;more1;");
        good("turn(wait)or(lanes)and(not minute);pain-side;more bus=empty;");
        fault("turnwait;pain 1;more 0;", 0);
        fault("tur n 1;pain 1;more 0;", 0);
        fault("turn wait;pain 1;moree 0;", 17);
        faultOfE("notwait", 0);
        faultOfE("wait orlanes", 5);
        faultOfE("wait or lane", 8);
        faultOfE("a", 0);
        faultOfE("z", 0);
        faultOfE("wait1", 4);
        for (String word : new String[] {"wai", "lanesz", "minut", "sid", "buss", "emptyy", "Wait", "xait", "waix", "no", "nott"}) {
            faultOfE(word, 0);
        }
        for (String key : new String[] {"turn", "pain", "more", "or", "and"}) {
            faultOfE(key, 0);
            faultOfE("1+" + key, 2);
        }
        for (String name : new String[] {"wait", "lanes", "minute", "side", "bus", "empty"}) {
            goodE(name);
            fault(name, 0);
        }
    }

    private static void numbersOfFourDigits() {
        says("NUMBERS (as many digits as stand there, 4 at most); FAULT: a NUMBER that is too long");
        goodE("0");
        goodE("9999");
        goodE("0000");
        faultOfE("10000", 0);
        faultOfE("00000", 0);
        faultOfE("00001", 0);
        faultOfE("1+99999", 2);
        faultOfE("4294967297", 0);
        faultOfE("1 2", 2);
        faultOfE("1234 5", 5);
        isTrue("9999=9998+1");
        isTrue("0009=9");
        isTrue("1234=1000+200+30+4");
    }

    private static void allBytes() {
        says("FAULT: also of a byte that begins none; blanks (32, 10) may stand between");
        for (int b = 0; b < 256; b++) {
            char c = (char) b;
            boolean isBlank = b == 32 || b == 10;
            boolean begins = isBlank || c == '(' || c == '-' || c >= '0' && c <= '9';
            fault("turn " + c, begins ? 6 : 5);
            boolean follows = isBlank || "+-*<=;".indexOf(c) >= 0 || c >= '0' && c <= '9';
            fault("turn 1" + c, follows ? 7 : 6);
            if (isBlank) {
                good("turn 1;pain 1;more 0;" + c);
                good(c + "turn 1;pain 1;more 0;");
            } else {
                fault("turn 1;pain 1;more 0;" + c, 21);
                fault(c + "turn 1;pain 1;more 0;", 0);
            }
        }
        good("\n \nturn\n1\n;pain \n 1 ; more 0;\n");
        fault("tu\nrn 1;pain 1;more 0;", 0);
    }

    private static void endsTooEarly() {
        says("FAULT: the text's size, if it ends too early");
        String[] tokens = {"turn", "not", "(", "wait", "<", "2", ")", "or", "-", "3", "*", "side", ";", "pain", "bus", "and",
            "9", ";", "more", "minute", "+", "1", "-", "lanes", "=", "empty", ";"};
        StringBuilder tape = new StringBuilder();
        for (String token : tokens) {
            fault(tape.toString(), tape.length());
            fault(tape + "\n ", tape.length() + 2);
            tape.append(tape.length() > 0 ? " " : "").append(token);
        }
        good(tape.toString());
    }

    private static void whatCannotStand() {
        says("FAULT: the place of the first byte of the first TOKEN that can't stand there");
        fault("turn 1;pain 1;more 0;;", 21);
        fault("turn 1;pain 1;more 0; 1", 22);
        fault("turn 1;pain 1;more 0;turn", 21);
        fault("turn 1;more 1;pain 0;", 7);
        fault("turn 1;turn 1;", 7);
        fault("turn 1 pain 1;", 7);
        fault("turn;", 4);
        fault("turn 1;pain;", 11);
        fault("turn 1;pain 1;more;", 18);
        faultOfE("()", 1);
        faultOfE("(1", 2);
        faultOfE("1)", 1);
        faultOfE("(1 2)", 3);
        faultOfE("1<2<3", 3);
        faultOfE("1<2=3", 3);
        faultOfE("1=2<3", 3);
        faultOfE("1<", 2);
        faultOfE("<1", 0);
        faultOfE("1<not 2", 2);
        faultOfE("1+not 2", 2);
        faultOfE("1*not 2", 2);
        faultOfE("-not 2", 1);
        faultOfE("1++2", 2);
        faultOfE("1+*2", 2);
        faultOfE("1 or or 2", 5);
        faultOfE("1 and;", 5);
        faultOfE("1 not 2", 2);
        goodE("1<(2<3)");
        goodE("1+(not 2)");
        goodE("1--2");
        goodE("1*-2");
        goodE("1<-2");
        goodE("not 1<2 and not 1=2 or 3");
    }

    private static void fiveOpen() {
        says("FAULT: a ( , a not, a - ahead of a ONE while 5 of these are open");
        goodE("(((((1)))))");
        goodE("-----1");
        goodE("not not not not not 1");
        goodE("not(-(not 1))");
        goodE("not-(-(1))");
        faultOfE("not(-(not(1)))", 9);
        faultOfE("not-(-(-1))", 7);
        faultOfE("((((((1))))))", 5);
        faultOfE("------1", 5);
        faultOfE("not not not not not not 1", 20);
        faultOfE("(((((-1)))))", 5);
        faultOfE("(((((not 1)))))", 5);
        faultOfE("-----(1)", 5);
        faultOfE("not not not not not(1)", 19);
        faultOfE("not not not not not-1", 19);
        faultOfE("(((((1-1+-1)))))", 9);
    }

    private static void openTillTheirEnd() {
        says("a ( till its ), not and - till what they belong to ends");
        goodE("(((((1)))))+(((((1)))))");
        goodE("(((((1)))))*-----1-(((((1)))))");
        goodE("----(1)*(((((1)))))");
        goodE("-1<(((((1)))))");
        goodE("(-1+((((1)))))");
        goodE("not 1 and(((((1)))))");
        goodE("not 1 or not not not not not 1");
        goodE("not 1+((((1))))");
        faultOfE("not 1+(((((1)))))", 10);
        faultOfE("not 1<(((((1)))))", 10);
        faultOfE("not 1*-----1", 10);
        faultOfE("(1 or(((((1))))))", 9);
        faultOfE("(((((1)))))+((((((1))))))", 17);
    }

    private static void wrapping() {
        says("An E is an int (32 bits, wrapping)");
        isTrue(LEAST_INT + "<0");
        isTrue("0<" + LEAST_INT + "-1");
        isTrue(LEAST_INT + "-1+1=" + LEAST_INT);
        isTrue("-" + LEAST_INT + "=" + LEAST_INT);
        isTrue("2*" + LEAST_INT + "=0");
        isTrue("4096*1024*1024+7=7");
        isTrue(LEAST_INT + "<" + LEAST_INT + "-1");
        isFalse(LEAST_INT + "-1<" + LEAST_INT);
        isTrue(LEAST_INT + " and 1");
    }

    private static void truth() {
        says("of or, and, not, <, = 1 or 0 (what is not 0 is true)");
        isTrue("7 or 0");
        isTrue("0 or -7");
        isTrue("7 or -7");
        isFalse("0 or 0");
        isTrue("7 and -7");
        isFalse("7 and 0");
        isFalse("0 and 7");
        isFalse("0 and 0");
        isFalse("not 7");
        isFalse("not -1");
        isTrue("not 0");
        isTrue("not not -7");
        isTrue("1<2");
        isFalse("2<2");
        isFalse("3<2");
        isTrue("-1<0");
        isTrue("2=2");
        isFalse("2=3");
        isFalse("3=2");
        comesTo("7", 7);
        comesTo("-7", -7);
        comesTo("2-7+1", -4);
        comesTo("2+3*4", 14);
        comesTo("0 and 0 or 1", 1);
        comesTo("1 or 0 and 0", 1);
        comesTo("not 1 or 1", 1);
        comesTo("not 0 and 0", 0);
        comesTo("not 1=2", 1);
    }

    private static void sixTexts() {
        says("There are 6 TEXTS at most, TEXT 0 with them");
        LanesTurn x = new LanesTurn();
        due("TEXT 0 is there", x.force(0), 0);
        for (int i = 1; i <= 5; i++) {
            due("not there yet", x.force(i), BAD);
            due("a FAULT is no TEXT", text(x, "turn"), -104);
            due("text", text(x, "turn 0;pain 1;more " + i + ";"), i);
            due("how many", x.count(4), i + 1);
            due("what was THE RULE", x.force(i), i - 1);
            due("it is", x.count(6), i);
            due("more of it", x.day(1, -1, 0), i);
        }
        due("THE TAPE", feed(x, "?"), 1);
        due("no TEXT more has room, ahead of a FAULT", x.text(), FULL);
        due("THE TAPE stays", x.count(5), 1);
        due("more still comes behind it", x.feed(8, 0), 9);
        due("THE RULE stays", x.count(6), 5);
        due("what was THE RULE", x.force(0), 5);
    }

    private static void nothingOfAFault() {
        says("Promise 8: THE TAPE, which is empty then (by a FAULT, too): nothing of it is in the next TEXT");
        for (String e : new String[] {"-5+1", "not 5", "5-9", "5 and 0", "5<1", "wait*3", "5 or 1", "5=4"}) {
            LanesTurn x = new LanesTurn();
            String tape = "turn 0;pain 1;more " + e;
            due("a FAULT of " + e, text(x, tape), -100 - tape.length());
            due("none is left", x.count(5), 0);
            due("a TEXT", text(x, "turn 0;pain 1;more 5;"), 1);
            due("it is THE RULE", x.force(1), 0);
            due("its own more", x.day(1, -1, 0), 5);
        }
    }

    private static void names() {
        says("Of a WAY in a MINUTE: wait; lanes (RESTING ones, too); minute; side: the WAY; bus; empty: EMPTY");
        LanesTurn x = ruled("0", "1", "(lanes-1)*7", 0, 0, 0, 0, 0, 1, 0, 0, 1);
        row(x, 0, 0, 0);
        due("one out, two home", x.day(1, -1, 0) * 100 + x.day(1, -1, 1), 7);
        due("the MINUTE behind the turn: none out, three home, one RESTS", x.day(2, 0, 1), 7 + 14);
        due("minute 0", ruled("0", "1", "minute=0").day(60, -1, 0), 1);
        due("minute 59", ruled("0", "1", "minute=59").day(60, -1, 0), 1);
        due("minute 59 not ahead of it", ruled("0", "1", "minute=59").day(59, -1, 0), 0);
        due("side 0", ruled("0", "1", "side=0").day(1, -1, 0), 1);
        due("side 1", ruled("0", "1", "side=0").day(1, -1, 1), 0);
        LanesTurn y = ruled("0", "1", "empty*10");
        due("empty", y.day(1, -1, 0), 20);
        y.set(2, 0, 0);
        due("empty 0", y.day(1, -1, 0), 0);
        y.set(2, 0, 9);
        due("empty 9", y.day(1, -1, 0), 90);
        LanesTurn z = ruled("0", "bus", "0", 0, 1, 0);
        comers(z, 0, 0, 4, 2);
        due("4, one of no bus goes: 3 with 2 buses", z.waited(1, -1), 6);
        due("then 2 with 2 buses", z.waited(2, -1), 6 + 4);
        due("then 1 with 1", z.waited(3, -1), 6 + 4 + 1);
        due("then nobody", z.waited(4, -1), 11);
    }

    private static void painBounds() {
        says("pain: what a minute's waiting of one is worth (0 .. 99, else the bound)");
        String[] pains = {"0", "1", "98", "99", "100", "9999", "-1", LEAST_INT, LEAST_INT + "-1"};
        int[] worths = {0, 1, 98, 99, 99, 99, 0, 0, 99};
        for (int i = 0; i < pains.length; i++) {
            LanesTurn x = ruled("0", pains[i], "0");
            comers(x, 0, 0, 2, 0);
            due("pain " + pains[i], x.waited(1, -1), 2 * worths[i]);
        }
        LanesTurn most = ruled("0", "99", "99");
        for (int way = 0; way < 2; way++) {
            most.sheet(0, 0, 60);
            for (int minute = 0; minute < 60; minute++) {
                most.cell(0, minute, 99);
            }
            due("99 in all MINUTES", most.come(way, 0), 60);
        }
        due("198 more each MINUTE, of both WAYS", most.waited(60, -1), 99L * 2 * 198 * (60 * 61 / 2));
        due("60 times 198", most.day(60, -1, 1), 11880);
    }

    private static void moreBounds() {
        says("more: how many more than told come (-99 .. 99, else the bound; 0 COMERS at least)");
        String[] mores = {"98", "99", "100", "9999", LEAST_INT + "-1", "0", "-1", "-98", "-99", "-100", "-9999", LEAST_INT};
        int[] of99 = {197, 198, 198, 198, 198, 99, 98, 1, 0, 0, 0, 0};
        for (int i = 0; i < mores.length; i++) {
            LanesTurn x = ruled("0", "1", "(minute=1)*" + "(" + mores[i] + ")");
            comers(x, 0, 0, 5, 0);
            comers(x, 0, 1, 99, 0);
            due("99 and more " + mores[i], x.day(2, -1, 0), 5 + of99[i]);
        }
        LanesTurn y = ruled("0", "1", "(minute=1)*-99");
        comers(y, 0, 0, 5, 0);
        comers(y, 0, 1, 98, 0);
        due("98 and -99: 0 at least", y.day(2, -1, 0), 5);
    }

    private static void textZero() {
        says("TEXT 0, at first THE RULE, is: turn wait - 30 ; pain 1 ; more 0 ;");
        LanesTurn x = with(0, 0, 0, 0, 0, 1, 0, 0, 1);
        x.set(0, 0, 30);
        due("30 wait", x.day(1, 4, 2), 0);
        due("pain 1", x.waited(1, 4), 30);
        x.set(0, 0, 31);
        due("31 wait", x.day(1, 4, 2), 1);
        due("pain 1, more 0", x.waited(1, 4), 31);
        due("the one with the greatest number", x.day(1, 4, 4), 0b010);
    }

    public static void main(String[] args) {
        tapeOf160();
        feedsOfEightBytes();
        feedsTillFull();
        wordsAsLongAsCanBe();
        numbersOfFourDigits();
        allBytes();
        endsTooEarly();
        whatCannotStand();
        fiveOpen();
        openTillTheirEnd();
        wrapping();
        truth();
        sixTexts();
        nothingOfAFault();
        names();
        painBounds();
        moreBounds();
        textZero();
        end();
    }
}

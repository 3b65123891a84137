import java.util.ArrayList;
import java.util.Arrays;
import java.util.List;
import java.util.Random;

/**
 * Random runs of calls, each answer held against a second, slow writing of the document: people stand in queues one by
 * one, texts are reckoned from their tokens each time, sheets are Java's own arrays whose faults are caught.
 * With a number as its argument it makes so many runs.
 */
public final class LanesTurnModel {
    static final int CALLS = 512;

    // ---- the second writing

    static final class Fault extends RuntimeException {
        final int place;

        Fault(int place) {
            this.place = place;
        }
    }

    record Token(String word, int place) { }

    static final class Grammar {
        final List<Token> tokens = new ArrayList<>();
        final int[] names;
        int next;
        int open;

        Grammar(String tape, int[] names) {
            this.names = names;
            int i = 0;
            while (i < tape.length()) {
                int from = i;
                char c = tape.charAt(i++);
                if (c == ' ' || c == '\n') {
                    continue;
                }
                if (c >= 'a' && c <= 'z') {
                    while (i < tape.length() && tape.charAt(i) >= 'a' && tape.charAt(i) <= 'z') {
                        i++;
                    }
                } else if (c >= '0' && c <= '9') {
                    while (i < tape.length() && tape.charAt(i) >= '0' && tape.charAt(i) <= '9') {
                        i++;
                    }
                }
                tokens.add(new Token(tape.substring(from, i), from));
            }
            tokens.add(new Token("", tape.length()));
        }

        boolean sees(String word) {
            return tokens.get(next).word.equals(word);
        }

        Fault fault() {
            return new Fault(tokens.get(next).place);
        }

        void eat(String word) {
            if (!sees(word)) {
                throw fault();
            }
            next++;
        }

        int[] whole() {
            int[] three = new int[3];
            String[] keys = {"turn", "pain", "more"};
            for (int i = 0; i < 3; i++) {
                eat(keys[i]);
                three[i] = e();
                eat(";");
            }
            if (!sees("")) {
                throw fault();
            }
            return three;
        }

        int e() {
            int v = and();
            while (sees("or")) {
                next++;
                int w = and();
                v = v != 0 || w != 0 ? 1 : 0;
            }
            return v;
        }

        int and() {
            int v = not();
            while (sees("and")) {
                next++;
                int w = not();
                v = v != 0 && w != 0 ? 1 : 0;
            }
            return v;
        }

        void opens() {
            if (open == 5) {
                throw fault();
            }
            open++;
            next++;
        }

        int not() {
            if (sees("not")) {
                opens();
                int v = not();
                open--;
                return v == 0 ? 1 : 0;
            }
            int v = sum();
            if (sees("<")) {
                next++;
                return v < sum() ? 1 : 0;
            }
            if (sees("=")) {
                next++;
                return v == sum() ? 1 : 0;
            }
            return v;
        }

        int sum() {
            int v = term();
            while (sees("+") || sees("-")) {
                boolean plus = sees("+");
                next++;
                v = plus ? v + term() : v - term();
            }
            return v;
        }

        int term() {
            int v = one();
            while (sees("*")) {
                next++;
                v *= one();
            }
            return v;
        }

        int one() {
            String word = tokens.get(next).word;
            if (word.matches("[0-9]{1,4}")) {
                next++;
                return Integer.parseInt(word);
            }
            int name = List.of("wait", "lanes", "minute", "side", "bus", "empty").indexOf(word);
            if (name >= 0) {
                next++;
                return names[name];
            }
            if (word.equals("-")) {
                opens();
                int v = -one();
                open--;
                return v;
            }
            if (word.equals("(")) {
                opens();
                int v = e();
                eat(")");
                open--;
                return v;
            }
            throw fault();
        }
    }

    record Kind(int kind, int number, int way) { }

    static final class Kept {
        int[][] comers = new int[2][60];
        int[][] buses = new int[2][60];
        int empty = 2;
        int stopLane = -1;
        int stopFrom;
        int stopTo;
        int rule;

        Kept twin() {
            Kept k = new Kept();
            for (int w = 0; w < 2; w++) {
                k.comers[w] = comers[w].clone();
                k.buses[w] = buses[w].clone();
            }
            k.empty = empty;
            k.stopLane = stopLane;
            k.stopFrom = stopFrom;
            k.stopTo = stopTo;
            k.rule = rule;
            return k;
        }
    }

    /** One who waits: with a bus (true) or not. */
    static final class Day {
        final List<List<Boolean>> sides = List.of(new ArrayList<>(), new ArrayList<>());
        int[] ways;
        int[] restsTill;
        long pain;
        int turns;
        int carried;
    }

    static final class Model {
        static final int[] UNDER = {-1, 0, 0, 1, 2, 0};
        final List<Kind> lanes = new ArrayList<>();
        Kept now = new Kept();
        Kept kept;
        final List<String> texts = new ArrayList<>(List.of("turn wait - 30 ; pain 1 ; more 0 ;"));
        final StringBuilder tape = new StringBuilder();
        final Object[] sheets = new Object[4];

        static boolean under(int kind, int over) {
            return kind == over || kind >= 0 && UNDER[kind] >= 0 && under(UNDER[kind], over);
        }

        int carries(int kind, int number, int w) {
            return switch (kind) {
                case 1 -> carries(0, number, w) + 2;
                case 2 -> carries(0, number, w);
                case 3 -> (int) Math.ceil(carries(1, number, w) / 2.0);
                case 4 -> Math.max(0, carries(2, number, w) - w / 10);
                case 5 -> carries(0, number, w);
                default -> number;
            };
        }

        boolean mayTurn(int kind, int minute) {
            return kind != 5 && (kind != 4 || minute % 5 == 0);
        }

        int rests(int kind) {
            return switch (kind) {
                case 1, 3 -> now.empty + 1;
                case 4 -> 2 * now.empty;
                default -> now.empty;
            };
        }

        int lane(int kind, int number, int way) {
            if (kind < 0 || kind > 5 || number < 0 || number > 20 || way < 0 || way > 1) return -2;
            if (lanes.size() == 8) return -4;
            lanes.add(new Kind(kind, number, way));
            return lanes.size() - 1;
        }

        int set(int what, int when, int v) {
            if (what == 2) {
                if (v < 0 || v > 9) return -2;
                int was = now.empty;
                now.empty = v;
                return was;
            }
            if (what < 0 || what > 2 || when < 0 || when / 10 > 59 || when % 10 > 1 || v < 0 || v > 99) return -2;
            int[] row = (what == 0 ? now.comers : now.buses)[when % 10];
            int was = row[when / 10];
            row[when / 10] = v;
            return was;
        }

        static int[] ints(Object sheet) {
            int[] out = new int[java.lang.reflect.Array.getLength(sheet)];
            for (int i = 0; i < out.length; i++) {
                out[i] = java.lang.reflect.Array.getInt(sheet, i);
            }
            return out;
        }

        boolean noSheet(int sheet) {
            return sheet < 0 || sheet > 3;
        }

        int come(int way, int sheet) {
            if (way < 0 || way > 1 || noSheet(sheet)) return -2;
            if (sheets[sheet] == null) return -11;
            int m = 0;
            for (int v : ints(sheets[sheet])) {
                if (v < 0 || v > 99) break;
                now.comers[way][m++] = v;
            }
            return m;
        }

        int stop(int lane, int from, int to) {
            if (lane != -1 && (lane < 0 || lane >= lanes.size() || from < 0 || to > 59 || from > to)) return -2;
            now.stopLane = lane;
            now.stopFrom = from;
            now.stopTo = to;
            return 1;
        }

        int told(int lane, int what, int by) {
            if (lane < 0 || lane >= lanes.size() || what < 0 || what > 5) return -2;
            Kind k = lanes.get(lane);
            if (what == 0) return k.kind;
            if (what == 1) return k.number;
            if (what == 2) return k.way;
            if (what == 3) return rests(k.kind);
            if (what == 4) return by < 0 || by > 59 ? -2 : mayTurn(k.kind, by) ? 1 : 0;
            return by < 0 || by > 9999 ? -2 : carries(k.kind, k.number, by);
        }

        int feed(int n, long bytes) {
            if (n < 1 || n > 8) return -2;
            if (tape.length() + n > 160) return -4;
            for (int i = 0; i < n; i++) {
                tape.append((char) (bytes & 255));
                bytes >>>= 8;
            }
            return tape.length();
        }

        int text() {
            if (texts.size() == 6) return -4;
            String t = tape.toString();
            tape.setLength(0);
            try {
                new Grammar(t, new int[6]).whole();
            } catch (Fault f) {
                return -100 - f.place;
            }
            texts.add(t);
            return texts.size() - 1;
        }

        int force(int text) {
            if (text < 0 || text >= texts.size()) return -2;
            int was = now.rule;
            now.rule = text;
            return was;
        }

        int names(Day d, int part, int way, int minute) {
            int going = 0;
            for (int w : d.ways) {
                if (w == way) going++;
            }
            int buses = 0;
            for (boolean bus : d.sides.get(way)) {
                if (bus) buses++;
            }
            int[] names = {d.sides.get(way).size(), going, minute, way, buses, now.empty};
            return new Grammar(texts.get(now.rule), names).whole()[part];
        }

        void carry(List<Boolean> side, Day d, int most, boolean busesAlone) {
            for (int k = 0; k < most; k++) {
                int at = busesAlone ? -1 : side.indexOf(false);
                if (at < 0) at = side.indexOf(true);
                if (at < 0) return;
                side.remove(at);
                d.carried++;
            }
        }

        /** told: a plan, or null for the rule; shut: a lane stopped always. */
        Day pass(int n, int[] told, int shut, int helpedWay, int help) {
            Day d = new Day();
            d.ways = lanes.stream().mapToInt(Kind::way).toArray();
            d.restsTill = new int[lanes.size()];
            for (int m = 0; m < n; m++) {
                int[] come = new int[2];
                for (int w = 0; w < 2; w++) {
                    int more = Math.max(-99, Math.min(99, names(d, 2, w, m)));
                    come[w] = Math.max(0, now.comers[w][m] + more);
                }
                for (int w = 0; w < 2; w++) {
                    for (int k = 0; k < come[w]; k++) {
                        d.sides.get(w).add(k < now.buses[w][m]);
                    }
                }
                int turned = told == null ? byRule(d, m) : m < told.length ? told[m] : -1;
                if (turned >= 0 && turned < lanes.size() && mayTurn(lanes.get(turned).kind, m) && d.restsTill[turned] <= m) {
                    d.ways[turned] ^= 1;
                    d.restsTill[turned] = m + rests(lanes.get(turned).kind);
                    d.turns++;
                }
                int[] began = {d.sides.get(0).size(), d.sides.get(1).size()};
                for (int i = 0; i < lanes.size(); i++) {
                    boolean stopped = i == shut || i == now.stopLane && m >= now.stopFrom && m <= now.stopTo;
                    if (m >= d.restsTill[i] && !stopped) {
                        Kind k = lanes.get(i);
                        carry(d.sides.get(d.ways[i]), d, carries(k.kind, k.number, began[d.ways[i]]), under(k.kind, 2));
                    }
                }
                if (help > 0) carry(d.sides.get(helpedWay), d, help, false);
                for (int w = 0; w < 2; w++) {
                    d.pain += (long) Math.max(0, Math.min(99, names(d, 1, w, m))) * d.sides.get(w).size();
                }
            }
            return d;
        }

        int byRule(Day d, int m) {
            int[] turn = {names(d, 0, 0, m), names(d, 0, 1, m)};
            int way = turn[1] > turn[0] ? 1 : 0;
            if (turn[way] <= 0) return -1;
            int others = 0;
            int last = -1;
            for (int i = 0; i < lanes.size(); i++) {
                if (d.ways[i] == way) continue;
                others++;
                if (mayTurn(lanes.get(i).kind, m) && d.restsTill[i] <= m) last = i;
            }
            return others >= 2 ? last : -1;
        }

        int[] planOf(int by) {
            return by == -1 ? new int[0] : by == 4 ? null : ints(sheets[by]);
        }

        long waited(int n, int by) {
            if (n < 1 || n > 60 || by < -1 || by > 4 || by >= 0 && by < 4 && sheets[by] == null) return LanesTurn.NO;
            return pass(n, planOf(by), -1, 0, 0).pain;
        }

        int day(int n, int by, int what) {
            if (n < 1 || n > 60 || by < -1 || by > 4 || what < 0 || what > 4) return -2;
            if (by >= 0 && by < 4 && sheets[by] == null) return -11;
            Day d = pass(n, planOf(by), -1, 0, 0);
            int bits = 0;
            for (int i = 0; i < lanes.size(); i++) {
                bits += d.ways[i] * (1 << i);
            }
            return new int[] {d.sides.get(0).size(), d.sides.get(1).size(), d.turns, d.carried, bits}[what];
        }

        static int[] planWith(int lane, int... minutes) {
            int[] plan = new int[60];
            Arrays.fill(plan, -1);
            for (int m : minutes) {
                plan[m] = lane;
            }
            return plan;
        }

        long best(int n, int what) {
            if (n < 1 || n > 60 || what < 0 || what > 2) return LanesTurn.NO;
            List<long[]> all = new ArrayList<>();
            all.add(new long[] {pass(n, new int[0], -1, 0, 0).pain, -1, -1});
            for (int lane = 0; lane < lanes.size(); lane++) {
                for (int m = 0; m < n; m++) {
                    if (mayTurn(lanes.get(lane).kind, m)) {
                        all.add(new long[] {pass(n, planWith(lane, m), -1, 0, 0).pain, m, lane});
                    }
                }
            }
            all.sort(Arrays::compare);
            long[] b = all.get(0);
            return new long[] {b[2], b[1], b[0]}[what];
        }

        long two(int n, int what) {
            if (n < 2 || n > 12 || what < 0 || what > 3) return LanesTurn.NO;
            List<long[]> all = new ArrayList<>();
            for (int lane = 0; lane < lanes.size(); lane++) {
                for (int a = 0; a < n; a++) {
                    for (int b = a + 1; b < n; b++) {
                        Day d = pass(n, planWith(lane, a, b), -1, 0, 0);
                        if (d.turns == 2) all.add(new long[] {d.pain, lane, a, b});
                    }
                }
            }
            if (all.isEmpty()) return -1;
            all.sort(Arrays::compare);
            return all.get(0)[(what + 1) % 4];
        }

        int enough(int n, int way) {
            if (n < 1 || n > 60 || way < 0 || way > 1) return -2;
            for (int k = 0; k <= 20; k++) {
                if (pass(n, new int[0], -1, way, 5 * k).sides.get(way).isEmpty()) return k;
            }
            return -1;
        }

        long worth(int n, int lane) {
            if (n < 1 || n > 60 || lane < 0 || lane >= lanes.size()) return LanesTurn.NO;
            return pass(n, new int[0], lane, 0, 0).pain - pass(n, new int[0], -1, 0, 0).pain;
        }

        int judge(int sheet) {
            if (noSheet(sheet)) return -2;
            if (sheets[sheet] == null) return -11;
            int[] plan = ints(sheets[sheet]);
            int told = 0;
            for (int m = 0; m < plan.length; m++) {
                if (plan[m] != -1) told++;
                if (pass(m + 1, plan, -1, 0, 0).turns < told) return m;
            }
            return -1;
        }

        int image() {
            kept = now.twin();
            return lanes.size();
        }

        int back() {
            if (kept == null) return -3;
            now = kept.twin();
            return lanes.size();
        }

        int count(int what) {
            return switch (what) {
                case 0 -> lanes.size();
                case 1 -> (int) lanes.stream().filter(k -> k.way == 1).count();
                case 2, 3 -> Arrays.stream(now.comers[what - 2]).sum();
                case 4 -> texts.size();
                case 5 -> tape.length();
                case 6 -> now.rule;
                case 7 -> now.empty;
                default -> -2;
            };
        }

        int sheet(int sheet, int sort, int n) {
            if (noSheet(sheet) || sort < -1 || sort > 2 || sort >= 0 && n > 60) return -2;
            try {
                sheets[sheet] = sort == -1 ? null : sort == 0 ? new byte[n] : sort == 1 ? new short[n] : new int[n];
                return 1;
            } catch (NegativeArraySizeException e) {
                return -14;
            }
        }

        int cell(int sheet, int i, int v) {
            if (noSheet(sheet)) return -2;
            try {
                if (sheets[sheet] instanceof byte[] b) b[i] = (byte) v;
                else if (sheets[sheet] instanceof short[] s) s[i] = (short) v;
                else ((int[]) sheets[sheet])[i] = v;
                return 1;
            } catch (NullPointerException e) {
                return -11;
            } catch (ArrayIndexOutOfBoundsException e) {
                return -12;
            }
        }

        @SuppressWarnings("SuspiciousSystemArraycopy")
        int copy(int sheet, int i, int other, int j, int n) {
            if (noSheet(sheet) || noSheet(other)) return -2;
            try {
                System.arraycopy(sheets[sheet], i, sheets[other], j, n);
                return n;
            } catch (NullPointerException e) {
                return -11;
            } catch (ArrayStoreException e) {
                return -13;
            } catch (IndexOutOfBoundsException e) {
                return -12;
            }
        }

        int lanes(int sheet, int sort, int from, int n) {
            if (noSheet(sheet) || sort < 0 || sort > 2 || n < 0 || n > 8) return -2;
            Object s = sheets[sheet];
            try {
                Object taken = sort == 0 ? (byte[]) s : sort == 1 ? (short[]) s : (int[]) s;
                int[] v = ints(taken);
                int came = 0;
                for (int k = 0; k < n; k++) {
                    if (lane(v[from + 3 * k], v[from + 3 * k + 1], v[from + 3 * k + 2]) >= 0) came++;
                }
                return came;
            } catch (ClassCastException e) {
                return -13;
            } catch (NullPointerException e) {
                return -11;
            } catch (ArrayIndexOutOfBoundsException e) {
                return -12;
            }
        }

        int taken(int lane, int k) {
            if (k < 0 || k > 5) return -2;
            if (lane < 0 || lane >= lanes.size()) return -11;
            return under(lanes.get(lane).kind, k) ? lanes.get(lane).number : -13;
        }
    }

    // ---- the runs

    static Random random;
    static LanesTurn x;
    static Model y;
    static int run;
    static long wrong;
    static long calls;
    static final List<String> said = new ArrayList<>();
    static final int[] WILD = {-2147483648, 2147483647, -1000, 1000, 255, 256, 65535, -128, 128, 60, 61, 59, 10000};

    static int in(int least, int most) {
        return least + random.nextInt(most - least + 1);
    }

    /** Mostly inside, now and then just outside, rarely far away. */
    static int near(int least, int most) {
        int dice = random.nextInt(40);
        return dice == 0 ? WILD[random.nextInt(WILD.length)] : dice == 1 ? least - 1 : dice == 2 ? most + 1 : in(least, most);
    }

    static void due(String call, long got, long want) {
        calls++;
        said.add(call + " = " + got);
        if (got != want && wrong++ < 5) {
            System.out.println("run " + run + ": due is " + want + " at the end of");
            for (String s : said.subList(Math.max(0, said.size() - 60), said.size())) {
                System.out.println("  " + s);
            }
        }
    }

    static String one(int deep) {
        String[] names = {"wait", "lanes", "minute", "side", "bus", "empty"};
        int dice = random.nextInt(12);
        if (dice < 5 || deep > 6 && dice < 9) return names[random.nextInt(6)];
        if (dice < 9 || deep > 6) return "" + (random.nextInt(4) == 0 ? random.nextInt(10000) : random.nextInt(40));
        if (dice == 9) return "- " + one(deep + 1);
        return "( " + e(deep + 1) + " )";
    }

    static String some(String sign, int most, java.util.function.Supplier<String> part) {
        StringBuilder b = new StringBuilder(part.get());
        for (int k = random.nextInt(most); k > 0; k--) {
            b.append(random.nextInt(3) > 0 ? " " + sign + " " : sign).append(part.get());
        }
        return b.toString();
    }

    static String sum(int deep) {
        return some(random.nextBoolean() ? "+" : "-", 3, () -> some("*", 2, () -> one(deep + 1)));
    }

    static String not(int deep) {
        if (random.nextInt(5) == 0 && deep < 8) return "not " + not(deep + 1);
        return random.nextInt(3) > 0 ? sum(deep) : sum(deep) + (random.nextBoolean() ? "<" : "=") + sum(deep);
    }

    static String e(int deep) {
        return some(" or ", random.nextInt(3) == 0 ? 2 : 1, () -> some(" and ", random.nextInt(3) == 0 ? 2 : 1, () -> not(deep)));
    }

    static String text() {
        String t = "turn " + e(0) + ";pain " + e(0) + ";\nmore " + (random.nextBoolean() ? "0" : e(0)) + ";";
        StringBuilder b = new StringBuilder(t);
        for (int k = random.nextInt(3) == 0 ? random.nextInt(3) : 0; k > 0 && b.length() > 1; k--) {
            int at = random.nextInt(b.length());
            String bytes = "();+-*<=0123456789 \nabenorst@A\u0000\u00ff\u0001";
            int dice = random.nextInt(3);
            if (dice == 0) b.deleteCharAt(at);
            else if (dice == 1) b.insert(at, bytes.charAt(random.nextInt(bytes.length())));
            else b.setLength(at);
        }
        return b.toString();
    }

    static void feed(int n, long bytes) {
        due("feed(" + n + ", " + bytes + "L)", x.feed(n, bytes), y.feed(n, bytes));
    }

    static void feedText() {
        String t = text();
        for (int tries = 0; t.length() > 160 && tries < 20; tries++) {
            t = text();
        }
        for (int i = 0; i < t.length(); i += 8) {
            long bytes = 0;
            int n = Math.min(8, t.length() - i);
            for (int k = 0; k < n; k++) {
                bytes |= (long) t.charAt(i + k) << (8 * k);
            }
            feed(n, bytes);
        }
        if (random.nextInt(20) > 0) {
            int got = x.text();
            due("text() of " + t.replace("\n", "\\n"), got, y.text());
            if (got > 0) force(got);
        }
    }

    static void force(int text) {
        due("force(" + text + ")", x.force(text), y.force(text));
    }

    static void sheet(int sheet, int sort, int n) {
        due("sheet(" + sheet + ", " + sort + ", " + n + ")", x.sheet(sheet, sort, n), y.sheet(sheet, sort, n));
    }

    static void cell(int sheet, int i, int v) {
        due("cell(" + sheet + ", " + i + ", " + v + ")", x.cell(sheet, i, v), y.cell(sheet, i, v));
    }

    static void fill(int least, int most) {
        int sheet = in(0, 3);
        int n = random.nextInt(3) == 0 ? in(0, 60) : in(0, 14);
        sheet(sheet, in(0, 2), n);
        for (int i = 0; i < n; i++) {
            if (random.nextInt(4) > 0) cell(sheet, i, near(least, most));
        }
    }

    static void lane(int kind, int number, int way) {
        due("lane(" + kind + ", " + number + ", " + way + ")", x.lane(kind, number, way), y.lane(kind, number, way));
    }

    static void host() {
        int a = near(0, 3);
        int b = near(0, 3);
        int i = random.nextInt(2) == 0 ? near(0, 60) : near(0, 8);
        int j = near(0, 8);
        int n = near(0, 8);
        int sort = near(0, 2);
        switch (random.nextInt(8)) {
            case 0 -> sheet(a, near(-1, 2), near(0, 60));
            case 1 -> cell(a, i, near(-1, 99));
            case 2, 3 -> due("copy(" + a + ", " + i + ", " + b + ", " + j + ", " + n + ")", x.copy(a, i, b, j, n), y.copy(a, i, b, j, n));
            case 4 -> due("lanes(" + a + ", " + sort + ", " + i + ", " + n + ")", x.lanes(a, sort, i, n), y.lanes(a, sort, i, n));
            case 5 -> fill(-1, 7);
            case 6 -> fill(0, 99);
            default -> due("taken(" + i + ", " + n + ")", x.taken(i, n), y.taken(i, n));
        }
    }

    static void asked() {
        int n = random.nextInt(2) == 0 ? near(1, 60) : near(1, 12);
        int by = near(-1, 4);
        int what = near(0, 4);
        int lane = near(0, 7);
        switch (random.nextInt(10)) {
            case 0 -> due("waited(" + n + ", " + by + ")", x.waited(n, by), y.waited(n, by));
            case 1, 2 -> due("day(" + n + ", " + by + ", " + what + ")", x.day(n, by, what), y.day(n, by, what));
            case 3 -> {
                if (random.nextInt(4) == 0) {
                    int m = n > 12 ? in(1, 20) : n;
                    due("best(" + m + ", " + what + ")", x.best(m, what), y.best(m, what));
                }
            }
            case 4 -> {
                if (random.nextInt(4) == 0) {
                    int m = random.nextInt(10) > 0 ? in(2, 7) : near(2, 12);
                    due("two(" + m + ", " + what + ")", x.two(m, what), y.two(m, what));
                }
            }
            case 5 -> due("enough(" + n + ", " + (what - 1) + ")", x.enough(n, what - 1), y.enough(n, what - 1));
            case 6 -> due("worth(" + n + ", " + lane + ")", x.worth(n, lane), y.worth(n, lane));
            case 7 -> due("judge(" + by + ")", x.judge(by), y.judge(by));
            case 8 -> due("count(" + (by + what) + ")", x.count(by + what), y.count(by + what));
            default -> {
                int much = random.nextInt(2) == 0 ? near(0, 59) : near(0, 9999);
                int field = near(0, 5);
                due("told(" + lane + ", " + field + ", " + much + ")", x.told(lane, field, much), y.told(lane, field, much));
            }
        }
    }

    static void set(int what, int when, int v) {
        due("set(" + what + ", " + when + ", " + v + ")", x.set(what, when, v), y.set(what, when, v));
    }

    static void stop(int lane, int from, int to) {
        due("stop(" + lane + ", " + from + ", " + to + ")", x.stop(lane, from, to), y.stop(lane, from, to));
    }

    static void changed() {
        int sheet = near(0, 3);
        int way = near(0, 1);
        switch (random.nextInt(12)) {
            case 0, 1 -> set(near(0, 1), 10 * in(0, 15) + near(0, 1), near(0, 99));
            case 2 -> set(near(0, 2), near(0, 599), near(0, 9));
            case 3 -> set(2, near(0, 9), near(0, 9));
            case 4, 5 -> due("come(" + way + ", " + sheet + ")", x.come(way, sheet), y.come(way, sheet));
            case 6 -> {
                int from = near(0, 12);
                int lane = random.nextInt(4) == 0 ? -1 : near(-1, 7);
                stop(lane, from, random.nextBoolean() ? near(0, 59) : from + near(0, 9));
            }
            case 7 -> feedText();
            case 8 -> force(near(0, 5));
            case 9 -> feed(near(1, 8), random.nextLong());
            case 10 -> {
                if (random.nextBoolean()) due("image()", x.image(), y.image());
                else due("back()", x.back(), y.back());
            }
            default -> lane(near(0, 5), near(0, 20), near(0, 1));
        }
    }

    static void oneRun() {
        x = new LanesTurn();
        y = new Model();
        said.clear();
        long end = calls + CALLS - 30;
        for (int k = random.nextInt(8); k > 0; k--) {
            lane(in(0, 5), in(0, random.nextInt(2) == 0 ? 20 : 6), in(0, 1));
        }
        for (int k = random.nextInt(30); k > 0; k--) {
            set(in(0, 1), 10 * in(0, 12) + in(0, 1), in(0, 50));
        }
        for (int k = 0; k < CALLS && calls < end; k++) {
            int dice = random.nextInt(4);
            if (dice == 0) host();
            else if (dice == 1) changed();
            else asked();
        }
    }

    public static void main(String[] args) {
        int runs = args.length > 0 ? Integer.parseInt(args[0]) : 60;
        for (run = 0; run < runs; run++) {
            random = new Random(run);
            oneRun();
        }
        System.out.println(calls + " calls in " + runs + " runs, " + wrong + " not as due");
        if (wrong != 0) System.exit(1);
    }
}

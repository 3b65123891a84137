import java.util.Arrays;

/** A bridge with lanes that go out or home, and are turned; ../shared/DOC.md says what each call answers. */
public final class LanesTurn {
    public static final int NONE = -1, BAD = -2, STATE = -3, FULL = -4;
    public static final long NO = -4611686018427387904L;

    private static final int MISSING = -11, OUTSIDE = -12, OTHER_SORT = -13, SIZE_BELOW_0 = -14;
    private static final int MOST_LANES = 8, MINUTES = 60, MOST_COMERS = 99, MOST_NUMBER = 20, MOST_EMPTY = 9;
    private static final int MOST_TEXTS = 6, MOST_TAPE = 160, FAULT_AT_0 = -100;
    private static final int SHEETS = 4, MOST_ITEMS = 60, BYTES = 0, SHORTS = 1, INTS = 2;
    private static final int BY_RULE = 4, MOST_OF_TWO = 12, MOST_ENOUGH = 20, ENOUGH_STEP = 5;
    private static final int TURN = 0, PAIN = 1, MORE = 2;
    /** Above all that can be waited in a day. */
    private static final long NO_LIMIT = 4611686018427387904L;

    private final Lane[] bridge = new Lane[MOST_LANES];
    private int laneCount;
    private final Setting now = new Setting();
    private final Setting kept = new Setting();
    private boolean isKept;
    private final Text[] texts = new Text[MOST_TEXTS];
    private int textCount;
    private final Reader reader = new Reader();
    private final Sheet[] sheets = new Sheet[SHEETS];
    private final Day course = new Day();
    /** What the last best() or two() found, each by its number `what`. */
    private final long[] found = new long[4];

    public LanesTurn() {
        for (int i = 0; i < MOST_TEXTS; i++) {
            texts[i] = new Text();
        }
        for (int i = 0; i < SHEETS; i++) {
            sheets[i] = new Sheet();
        }
        reader.lay("turn wait - 30 ; pain 1 ; more 0 ;");
        reader.read(texts[0]);
        reader.size = 0;
        textCount = 1;
    }

    // ---- lanes, comers

    public int lane(int kind, int number, int way) {
        if (!isIn(kind, 0, 5) || !isIn(number, 0, MOST_NUMBER) || !isIn(way, 0, 1)) {
            return BAD;
        }
        if (laneCount >= MOST_LANES) {
            return FULL;
        }
        bridge[laneCount] = newLane(kind, number, way);
        laneCount++;
        return laneCount - 1;
    }

    public int set(int what, int when, int v) {
        if (what == 2) {
            return setEmpty(v);
        }
        if (!isIn(what, 0, 1) || !isIn(when, 0, 10 * MINUTES - 1) || !isIn(v, 0, MOST_COMERS)) {
            return BAD;
        }
        int way = when % 10;
        if (!isIn(way, 0, 1)) {
            return BAD;
        }
        int[] row = what == 0 ? now.comers : now.buses;
        int place = placeOf(way, when / 10);
        int was = row[place];
        row[place] = v;
        return was;
    }

    public int come(int way, int sheet) {
        Sheet told = sheetOf(sheet);
        if (!isIn(way, 0, 1) || told == null) {
            return BAD;
        }
        if (told.isMissing()) {
            return MISSING;
        }
        int minute = 0;
        while (minute < MINUTES && told.has(minute) && isIn(told.at(minute), 0, MOST_COMERS)) {
            now.comers[placeOf(way, minute)] = told.at(minute);
            minute++;
        }
        return minute;
    }

    public int stop(int lane, int from, int to) {
        if (lane == NONE) {
            // With no STOP there is nothing that from and to could be wrong for.
            now.stopLane = NONE;
            return 1;
        }
        if (laneOf(lane) == null || !isIn(from, 0, MINUTES - 1) || !isIn(to, from, MINUTES - 1)) {
            return BAD;
        }
        now.stopLane = lane;
        now.stopFrom = from;
        now.stopTo = to;
        return 1;
    }

    public int told(int lane, int what, int by) {
        Lane asked = laneOf(lane);
        if (asked == null) {
            return BAD;
        }
        switch (what) {
            case 0: return asked.kind;
            case 1: return asked.number;
            case 2: return asked.way;
            case 3: return asked.rests(now.empty);
            case 4: return !isIn(by, 0, MINUTES - 1) ? BAD : asked.mayTurn(by) ? 1 : 0;
            case 5: return isIn(by, 0, 9999) ? asked.carries(by) : BAD;
            default: return BAD;
        }
    }

    // ---- texts

    public int feed(int n, long bytes) {
        if (!isIn(n, 1, 8)) {
            return BAD;
        }
        if (reader.size + n > MOST_TAPE) {
            return FULL;
        }
        for (int i = 0; i < n; i++) {
            reader.append((int) (bytes >> (8 * i)) & 255);
        }
        return reader.size;
    }

    public int text() {
        if (textCount >= MOST_TEXTS) {
            return FULL;
        }
        int fault = reader.read(texts[textCount]);
        reader.size = 0;
        if (fault != NONE) {
            return FAULT_AT_0 - fault;
        }
        textCount++;
        return textCount - 1;
    }

    public int force(int text) {
        if (!isIn(text, 0, textCount - 1)) {
            return BAD;
        }
        int was = now.rule;
        now.rule = text;
        return was;
    }

    // ---- days

    public long waited(int n, int by) {
        if (!isIn(n, 1, MINUTES) || !isIn(by, NONE, BY_RULE) || lacksPlan(by)) {
            return NO;
        }
        passBy(n, by);
        return course.allWaited;
    }

    public int day(int n, int by, int what) {
        if (!isIn(n, 1, MINUTES) || !isIn(by, NONE, BY_RULE) || !isIn(what, 0, 4)) {
            return BAD;
        }
        if (lacksPlan(by)) {
            return MISSING;
        }
        passBy(n, by);
        switch (what) {
            case 0: return course.waits[0];
            case 1: return course.waits[1];
            case 2: return course.turns;
            case 3: return course.carried;
            default: return course.waysAsBits();
        }
    }

    public long best(int n, int what) {
        if (!isIn(n, 1, MINUTES) || !isIn(what, 0, 2)) {
            return NO;
        }
        readyCourse();
        course.pass(n, NO_LIMIT);
        found[0] = NONE;
        found[1] = NONE;
        found[2] = course.allWaited;
        for (int minute = 0; minute < n; minute++) {
            for (int lane = 0; lane < laneCount; lane++) {
                if (bridge[lane].mayTurn(minute)) {
                    tryOne(n, lane, minute);
                }
            }
        }
        return found[what];
    }

    public long two(int n, int what) {
        if (!isIn(n, 2, MOST_OF_TWO) || !isIn(what, 0, 3)) {
            return NO;
        }
        readyCourse();
        Arrays.fill(found, NONE);
        for (int lane = 0; lane < laneCount; lane++) {
            for (int first = 0; first < n; first++) {
                for (int later = first + 1; later < n; later++) {
                    if (goesAndReturns(bridge[lane], first, later)) {
                        tryTwo(n, lane, first, later);
                    }
                }
            }
        }
        return found[what];
    }

    public int enough(int n, int way) {
        if (!isIn(n, 1, MINUTES) || !isIn(way, 0, 1)) {
            return BAD;
        }
        for (int times = 0; times <= MOST_ENOUGH; times++) {
            readyCourse();
            course.helpedWay = way;
            course.help = ENOUGH_STEP * times;
            course.pass(n, NO_LIMIT);
            if (course.waits[way] == 0) {
                return times;
            }
        }
        return NONE;
    }

    public long worth(int n, int lane) {
        if (!isIn(n, 1, MINUTES) || laneOf(lane) == null) {
            return NO;
        }
        readyCourse();
        course.pass(n, NO_LIMIT);
        long with = course.allWaited;
        course.shutLane = lane;
        course.pass(n, NO_LIMIT);
        return course.allWaited - with;
    }

    public int judge(int sheet) {
        Sheet plan = sheetOf(sheet);
        if (plan == null) {
            return BAD;
        }
        if (plan.isMissing()) {
            return MISSING;
        }
        readyCourse();
        course.tellPlan(plan);
        return course.firstFaultOfPlan();
    }

    public int image() {
        kept.become(now);
        isKept = true;
        return laneCount;
    }

    public int back() {
        if (!isKept) {
            return STATE;
        }
        now.become(kept);
        return laneCount;
    }

    public int count(int what) {
        switch (what) {
            case 0: return laneCount;
            case 1: return homeLanes();
            case 2: return now.allComers(0);
            case 3: return now.allComers(1);
            case 4: return textCount;
            case 5: return reader.size;
            case 6: return now.rule;
            case 7: return now.empty;
            default: return BAD;
        }
    }

    // ---- the host

    public int sheet(int sheet, int sort, int n) {
        Sheet laid = sheetOf(sheet);
        if (laid == null || !isIn(sort, NONE, INTS)) {
            return BAD;
        }
        if (sort == NONE) {
            laid.lay(NONE, 0);
            return 1;
        }
        if (n > MOST_ITEMS) {
            return BAD;
        }
        if (n < 0) {
            return SIZE_BELOW_0;
        }
        laid.lay(sort, n);
        return 1;
    }

    public int cell(int sheet, int i, int v) {
        Sheet changed = sheetOf(sheet);
        if (changed == null) {
            return BAD;
        }
        if (changed.isMissing()) {
            return MISSING;
        }
        if (!changed.has(i)) {
            return OUTSIDE;
        }
        changed.put(i, v);
        return 1;
    }

    public int copy(int sheet, int i, int other, int j, int n) {
        Sheet from = sheetOf(sheet);
        Sheet to = sheetOf(other);
        if (from == null || to == null) {
            return BAD;
        }
        if (from.isMissing() || to.isMissing()) {
            return MISSING;
        }
        if (from.sort != to.sort) {
            return OTHER_SORT;
        }
        if (!from.hasAll(i, n) || !to.hasAll(j, n)) {
            return OUTSIDE;
        }
        System.arraycopy(from.items, i, to.items, j, n);
        return n;
    }

    public int lanes(int sheet, int sort, int from, int n) {
        Sheet told = sheetOf(sheet);
        if (told == null || !isIn(sort, BYTES, INTS) || !isIn(n, 0, MOST_LANES)) {
            return BAD;
        }
        if (!told.isMissing() && told.sort != sort) {
            return OTHER_SORT;
        }
        if (told.isMissing()) {
            return MISSING;
        }
        int came = 0;
        for (int k = 0; k < n; k++) {
            int at = from + 3 * k;
            if (!told.hasAll(at, 3)) {
                return OUTSIDE;
            }
            if (lane(told.at(at), told.at(at + 1), told.at(at + 2)) >= 0) {
                came++;
            }
        }
        return came;
    }

    public int taken(int lane, int k) {
        if (!isIn(k, 0, 5)) {
            return BAD;
        }
        Lane asked = laneOf(lane);
        if (asked == null) {
            return MISSING;
        }
        return isOfKind(asked, k) ? asked.number : OTHER_SORT;
    }

    // ---- what the calls share

    private static boolean isIn(int v, int least, int most) {
        return least <= v && v <= most;
    }

    /** Where a WAY's MINUTE stands in a row of both WAYS; both are looked at by the callers. */
    private static int placeOf(int way, int minute) {
        return way * MINUTES + minute;
    }

    private static Lane newLane(int kind, int number, int way) {
        switch (kind) {
            case 1: return new WideLane(kind, number, way);
            case 2: return new BusLane(kind, number, way);
            case 3: return new ShortLane(kind, number, way);
            case 4: return new SlowLane(kind, number, way);
            case 5: return new FixedLane(kind, number, way);
            default: return new Lane(kind, number, way);
        }
    }

    private static boolean isOfKind(Lane lane, int kind) {
        switch (kind) {
            case 1: return lane instanceof WideLane;
            case 2: return lane instanceof BusLane;
            case 3: return lane instanceof ShortLane;
            case 4: return lane instanceof SlowLane;
            case 5: return lane instanceof FixedLane;
            default: return true;
        }
    }

    private Lane laneOf(int lane) {
        return isIn(lane, 0, laneCount - 1) ? bridge[lane] : null;
    }

    private Sheet sheetOf(int sheet) {
        return isIn(sheet, 0, SHEETS - 1) ? sheets[sheet] : null;
    }

    private int setEmpty(int v) {
        if (!isIn(v, 0, MOST_EMPTY)) {
            return BAD;
        }
        int was = now.empty;
        now.empty = v;
        return was;
    }

    private int homeLanes() {
        int many = 0;
        for (int i = 0; i < laneCount; i++) {
            many += bridge[i].way;
        }
        return many;
    }

    private boolean lacksPlan(int by) {
        Sheet plan = sheetOf(by);
        return plan != null && plan.isMissing();
    }

    /** The day stands ready with nothing being turned. */
    private void readyCourse() {
        course.ready(bridge, laneCount, now, texts[now.rule]);
    }

    private void passBy(int n, int by) {
        readyCourse();
        Sheet plan = sheetOf(by);
        if (plan != null) {
            course.tellPlan(plan);
        }
        course.byRule = by == BY_RULE;
        course.pass(n, NO_LIMIT);
    }

    private void tryOne(int n, int lane, int minute) {
        course.plan[minute] = lane;
        course.pass(n, found[2]);
        course.plan[minute] = NONE;
        if (course.allWaited < found[2]) {
            found[0] = lane;
            found[1] = minute;
            found[2] = course.allWaited;
        }
    }

    private boolean goesAndReturns(Lane lane, int first, int later) {
        return lane.mayTurn(first) && lane.mayTurn(later) && later - first >= lane.rests(now.empty);
    }

    private void tryTwo(int n, int lane, int first, int later) {
        long least = found[0] == NONE ? NO_LIMIT : found[3];
        course.plan[first] = lane;
        course.plan[later] = lane;
        course.pass(n, least);
        course.plan[first] = NONE;
        course.plan[later] = NONE;
        if (course.allWaited < least) {
            found[0] = lane;
            found[1] = first;
            found[2] = later;
            found[3] = course.allWaited;
        }
    }

    // ---- the kinds

    private static class Lane {
        final int kind;
        final int number;
        final int way;

        Lane(int kind, int number, int way) {
            this.kind = kind;
            this.number = number;
            this.way = way;
        }

        int carries(int waiting) {
            return number;
        }

        boolean takesBusesAlone() {
            return false;
        }

        boolean mayTurn(int minute) {
            return true;
        }

        int rests(int empty) {
            return empty;
        }
    }

    private static class WideLane extends Lane {
        WideLane(int kind, int number, int way) {
            super(kind, number, way);
        }

        int carries(int waiting) {
            return super.carries(waiting) + 2;
        }

        int rests(int empty) {
            return super.rests(empty) + 1;
        }
    }

    private static class BusLane extends Lane {
        BusLane(int kind, int number, int way) {
            super(kind, number, way);
        }

        boolean takesBusesAlone() {
            return true;
        }
    }

    private static final class ShortLane extends WideLane {
        ShortLane(int kind, int number, int way) {
            super(kind, number, way);
        }

        int carries(int waiting) {
            return (super.carries(waiting) + 1) / 2;
        }
    }

    private static final class SlowLane extends BusLane {
        SlowLane(int kind, int number, int way) {
            super(kind, number, way);
        }

        int carries(int waiting) {
            return Math.max(0, super.carries(waiting) - waiting / 10);
        }

        boolean mayTurn(int minute) {
            return minute % 5 == 0;
        }

        int rests(int empty) {
            return 2 * super.rests(empty);
        }
    }

    private static final class FixedLane extends Lane {
        FixedLane(int kind, int number, int way) {
            super(kind, number, way);
        }

        boolean mayTurn(int minute) {
            return false;
        }
    }

    // ---- what an image keeps

    /** All that THE IMAGE keeps stands here together, so that keeping and laying back are one copying each. */
    private static final class Setting {
        final int[] comers = new int[2 * MINUTES];
        final int[] buses = new int[2 * MINUTES];
        int empty = 2;
        int stopLane = NONE;
        int stopFrom;
        int stopTo;
        int rule;

        void become(Setting other) {
            System.arraycopy(other.comers, 0, comers, 0, comers.length);
            System.arraycopy(other.buses, 0, buses, 0, buses.length);
            empty = other.empty;
            stopLane = other.stopLane;
            stopFrom = other.stopFrom;
            stopTo = other.stopTo;
            rule = other.rule;
        }

        boolean stops(int lane, int minute) {
            return lane == stopLane && isIn(minute, stopFrom, stopTo);
        }

        int allComers(int way) {
            int sum = 0;
            for (int minute = 0; minute < MINUTES; minute++) {
                sum += comers[placeOf(way, minute)];
            }
            return sum;
        }
    }

    // ---- sheets

    private static final class Sheet {
        int sort = NONE;
        int size;
        final int[] items = new int[MOST_ITEMS];

        boolean isMissing() {
            return sort == NONE;
        }

        void lay(int newSort, int newSize) {
            sort = newSort;
            size = newSize;
            Arrays.fill(items, 0);
        }

        boolean has(int i) {
            return 0 <= i && i < size;
        }

        /** Whether n items from i on stand here; none, too, as long as i is no farther than the end. */
        boolean hasAll(int i, int n) {
            return 0 <= i && i <= size && 0 <= n && n <= size - i;
        }

        int at(int i) {
            return has(i) ? items[i] : 0;
        }

        void put(int i, int v) {
            if (has(i)) {
                items[i] = sort == BYTES ? (byte) v : sort == SHORTS ? (short) v : v;
            }
        }
    }

    // ---- texts

    /** A TEXT as a code in which each sign stands behind what it reckons with: no tree, so no object a reading. */
    private static final class Text {
        /** From 0 on a NUMBER; from -1 to -6 a NAME; below that what is done with one value or two. */
        static final int LAST_NAME = -6;
        static final int NOT = -7, NEGATE = -8, OR = -9, AND = -10, LESS = -11, LIKE = -12;
        static final int PLUS = -13, MINUS = -14, TIMES = -15;

        final int[] code = new int[MOST_TAPE];
        /** Where the code of turn, of pain, of more ends; each begins where the one ahead ends. */
        final int[] ends = new int[3];
        private final int[] stack = new int[MOST_TAPE];

        int value(int part, int[] names) {
            int top = 0;
            for (int i = part == TURN ? 0 : ends[part - 1]; i < ends[part]; i++) {
                int c = code[i];
                if (c >= LAST_NAME) {
                    if (top < stack.length) {
                        stack[top] = c >= 0 ? c : names[-1 - c];
                        top++;
                    }
                } else if (c >= NEGATE) {
                    if (top > 0) {
                        stack[top - 1] = ofOne(c, stack[top - 1]);
                    }
                } else if (top > 1) {
                    top--;
                    stack[top - 1] = ofTwo(c, stack[top - 1], stack[top]);
                }
            }
            return top > 0 ? stack[0] : 0;
        }

        private static int ofOne(int c, int a) {
            return c != NOT ? -a : a == 0 ? 1 : 0;
        }

        private static int ofTwo(int c, int a, int b) {
            switch (c) {
                case OR: return a != 0 || b != 0 ? 1 : 0;
                case AND: return a != 0 && b != 0 ? 1 : 0;
                case LESS: return a < b ? 1 : 0;
                case LIKE: return a == b ? 1 : 0;
                case PLUS: return a + b;
                case MINUS: return a - b;
                default: return a * b;
            }
        }
    }

    /** THE TAPE and its reading: first into TOKENS, then each method of the grammar takes those that are its own. */
    private static final class Reader {
        /** Sorts of TOKENS, the KEYS in the order of wordOf; a sign is told by its own byte (40 or more). */
        private static final int END = 0, WRONG = 1, NUMBER = 2, NAME = 3;
        private static final int FIRST_KEY = 4, OR_KEY = 7, AND_KEY = 8, NOT_KEY = 9;
        private static final int NAMES = 6, WORDS = 12, MOST_OPEN = 5, MOST_DIGITS = 4;

        final int[] tape = new int[MOST_TAPE];
        int size;
        private final int[] tokens = new int[MOST_TAPE + 1];
        private final int[] places = new int[MOST_TAPE + 1];
        private final int[] values = new int[MOST_TAPE + 1];
        private int next;
        private Text text = new Text();
        private int codes;

        void lay(String bytes) {
            size = 0;
            for (int i = 0; i < bytes.length(); i++) {
                append(bytes.charAt(i));
            }
        }

        void append(int b) {
            if (size < MOST_TAPE) {
                tape[size] = b;
                size++;
            }
        }

        /** The place of the FAULT, or NONE: nothing passes a TOKEN that can't stand where it does. */
        int read(Text into) {
            split();
            text = into;
            codes = 0;
            next = 0;
            boolean isWhole = readPart(TURN) && readPart(PAIN) && readPart(MORE) && token() == END;
            return isWhole ? NONE : places[next];
        }

        // -- TOKENS

        private void split() {
            int at = 0;
            int many = 0;
            for (int k = 0; k < MOST_TAPE && at < size; k++) {
                int behind = endOfToken(at);
                if (!isBlank(tape[at])) {
                    places[many] = at;
                    takeToken(many, at, behind);
                    many++;
                }
                at = behind;
            }
            places[many] = size;
            tokens[many] = END;
        }

        private int endOfToken(int at) {
            int behind = at + 1;
            while (behind < size && isOneWord(tape[at], tape[behind])) {
                behind++;
            }
            return behind;
        }

        private static boolean isOneWord(int first, int b) {
            return isLetter(first) && isLetter(b) || isDigit(first) && isDigit(b);
        }

        private void takeToken(int many, int at, int behind) {
            if (isLetter(tape[at])) {
                takeWord(many, at, behind);
            } else if (isDigit(tape[at])) {
                takeNumber(many, at, behind);
            } else {
                tokens[many] = isSign(tape[at]) ? tape[at] : WRONG;
            }
        }

        private void takeWord(int many, int at, int behind) {
            tokens[many] = WRONG;
            for (int k = 0; k < WORDS; k++) {
                if (isWord(wordOf(k), at, behind)) {
                    tokens[many] = k < NAMES ? NAME : FIRST_KEY + k - NAMES;
                    values[many] = -1 - k;
                }
            }
        }

        private void takeNumber(int many, int at, int behind) {
            int value = 0;
            for (int i = at; i < behind; i++) {
                value = 10 * value + tape[i] - '0';
            }
            tokens[many] = behind - at > MOST_DIGITS ? WRONG : NUMBER;
            values[many] = value;
        }

        private boolean isWord(String word, int at, int behind) {
            boolean isLike = word.length() == behind - at;
            for (int i = 0; isLike && i < word.length(); i++) {
                isLike = word.charAt(i) == tape[at + i];
            }
            return isLike;
        }

        /** The NAMES as Day.value lays them, then the KEYS. */
        private static String wordOf(int k) {
            switch (k) {
                case 0: return "wait";
                case 1: return "lanes";
                case 2: return "minute";
                case 3: return "side";
                case 4: return "bus";
                case 5: return "empty";
                case 6: return "turn";
                case 7: return "pain";
                case 8: return "more";
                case 9: return "or";
                case 10: return "and";
                default: return "not";
            }
        }

        private static boolean isBlank(int b) {
            return b == 32 || b == 10;
        }

        private static boolean isLetter(int b) {
            return 'a' <= b && b <= 'z';
        }

        private static boolean isDigit(int b) {
            return '0' <= b && b <= '9';
        }

        private static boolean isSign(int b) {
            return "();+-*<=".indexOf((char) b) >= 0;
        }

        // -- the grammar: each answers whether what it reads stands there; `open` counts what is open around it

        private boolean readPart(int part) {
            if (!pass(FIRST_KEY + part) || !readOr(0) || !pass(';')) {
                return false;
            }
            text.ends[part] = codes;
            return true;
        }

        private boolean readOr(int open) {
            boolean isGood = readAnd(open);
            for (int k = 0; k < MOST_TAPE && isGood && pass(OR_KEY); k++) {
                isGood = readAnd(open);
                put(Text.OR);
            }
            return isGood;
        }

        private boolean readAnd(int open) {
            boolean isGood = readNot(open);
            for (int k = 0; k < MOST_TAPE && isGood && pass(AND_KEY); k++) {
                isGood = readNot(open);
                put(Text.AND);
            }
            return isGood;
        }

        private boolean readNot(int open) {
            if (token() != NOT_KEY) {
                return readCompared(open);
            }
            if (open >= MOST_OPEN) {
                return false;
            }
            next++;
            boolean isGood = readNot(open + 1);
            put(Text.NOT);
            return isGood;
        }

        private boolean readCompared(int open) {
            if (!readSum(open)) {
                return false;
            }
            int sign = token() == '<' ? Text.LESS : Text.LIKE;
            if (!pass('<') && !pass('=')) {
                return true;
            }
            boolean isGood = readSum(open);
            put(sign);
            return isGood;
        }

        private boolean readSum(int open) {
            boolean isGood = readTerm(open);
            for (int k = 0; k < MOST_TAPE && isGood && (token() == '+' || token() == '-'); k++) {
                int sign = token() == '+' ? Text.PLUS : Text.MINUS;
                next++;
                isGood = readTerm(open);
                put(sign);
            }
            return isGood;
        }

        private boolean readTerm(int open) {
            boolean isGood = readOne(open);
            for (int k = 0; k < MOST_TAPE && isGood && pass('*'); k++) {
                isGood = readOne(open);
                put(Text.TIMES);
            }
            return isGood;
        }

        private boolean readOne(int open) {
            if (token() == NUMBER || token() == NAME) {
                put(values[next]);
                next++;
                return true;
            }
            if (open >= MOST_OPEN) {
                return false;
            }
            if (pass('(')) {
                return readOr(open + 1) && pass(')');
            }
            if (!pass('-')) {
                return false;
            }
            boolean isGood = readOne(open + 1);
            put(Text.NEGATE);
            return isGood;
        }

        /** No step is taken past END, the last TOKEN: so `next` never leaves the rows. */
        private int token() {
            return next < tokens.length ? tokens[next] : END;
        }

        private boolean pass(int wanted) {
            if (token() != wanted) {
                return false;
            }
            next++;
            return true;
        }

        private void put(int c) {
            if (codes < text.code.length) {
                text.code[codes] = c;
                codes++;
            }
        }
    }

    // ---- a day

    /** One day, passed as often as a call asks: its rows are made once and used again. */
    private static final class Day {
        private Lane[] lanes = new Lane[0];
        private int laneCount;
        private Setting setting = new Setting();
        private Text rule = new Text();

        /** The LANE told for each MINUTE, or NONE. */
        final int[] plan = new int[MINUTES];
        boolean byRule;
        /** A LANE that is STOPPED in all MINUTES, or NONE. */
        int shutLane;
        int helpedWay;
        int help;

        private final int[] ways = new int[MOST_LANES];
        private final int[] rests = new int[MOST_LANES];
        final int[] waits = new int[2];
        private final int[] buses = new int[2];
        private final int[] lanesOfWay = new int[2];
        private final int[] names = new int[Reader.NAMES];
        long allWaited;
        int turns;
        int carried;

        void ready(Lane[] bridge, int many, Setting given, Text text) {
            lanes = bridge;
            laneCount = Math.min(many, bridge.length);
            setting = given;
            rule = text;
            Arrays.fill(plan, NONE);
            byRule = false;
            shutLane = NONE;
            helpedWay = 0;
            help = 0;
        }

        void tellPlan(Sheet sheet) {
            for (int minute = 0; minute < MINUTES; minute++) {
                plan[minute] = sheet.has(minute) ? sheet.at(minute) : NONE;
            }
        }

        /** Goes no farther than ALL WAITED is below the limit: PAIN is never below 0, so it can't come back. */
        void pass(int n, long limit) {
            begin();
            for (int minute = 0; minute < n && minute < MINUTES && allWaited < limit; minute++) {
                arrive(0, minute);
                arrive(1, minute);
                turn(byRule ? laneByRule(minute) : plan[minute], minute);
                carryAll(minute);
                take(helpedWay, help, false);
                allWaited += painOf(0, minute) + painOf(1, minute);
            }
        }

        /** Nobody comes here: the LANES carry nothing, but those that REST do so a MINUTE less. */
        int firstFaultOfPlan() {
            begin();
            for (int minute = 0; minute < MINUTES; minute++) {
                if (plan[minute] != NONE && !canTurn(plan[minute], minute)) {
                    return minute;
                }
                turn(plan[minute], minute);
                carryAll(minute);
            }
            return NONE;
        }

        int waysAsBits() {
            int bits = 0;
            for (int i = 0; i < laneCount; i++) {
                bits |= ways[i] << i;
            }
            return bits;
        }

        private void begin() {
            Arrays.fill(rests, 0);
            Arrays.fill(waits, 0);
            Arrays.fill(buses, 0);
            Arrays.fill(lanesOfWay, 0);
            for (int i = 0; i < laneCount; i++) {
                ways[i] = lanes[i].way;
                lanesOfWay[ways[i]]++;
            }
            allWaited = 0;
            turns = 0;
            carried = 0;
        }

        private void arrive(int way, int minute) {
            int place = placeOf(way, minute);
            int more = within(value(MORE, way, minute), -99, 99);
            int many = Math.max(0, setting.comers[place] + more);
            waits[way] += many;
            buses[way] += Math.min(many, setting.buses[place]);
        }

        private void turn(int lane, int minute) {
            if (!canTurn(lane, minute)) {
                return;
            }
            lanesOfWay[ways[lane]]--;
            ways[lane] = 1 - ways[lane];
            lanesOfWay[ways[lane]]++;
            rests[lane] = lanes[lane].rests(setting.empty);
            turns++;
        }

        private int laneByRule(int minute) {
            int out = value(TURN, 0, minute);
            int home = value(TURN, 1, minute);
            int way = home > out ? 1 : 0;
            if (Math.max(out, home) <= 0 || lanesOfWay[1 - way] < 2) {
                return NONE;
            }
            for (int i = laneCount - 1; i >= 0; i--) {
                if (ways[i] != way && canTurn(i, minute)) {
                    return i;
                }
            }
            return NONE;
        }

        private boolean canTurn(int lane, int minute) {
            return isIn(lane, 0, laneCount - 1) && rests[lane] == 0 && lanes[lane].mayTurn(minute);
        }

        private void carryAll(int minute) {
            int out = waits[0];
            int home = waits[1];
            for (int i = 0; i < laneCount; i++) {
                if (rests[i] > 0) {
                    rests[i]--;
                } else if (i != shutLane && !setting.stops(i, minute)) {
                    int began = ways[i] == 0 ? out : home;
                    take(ways[i], lanes[i].carries(began), lanes[i].takesBusesAlone());
                }
            }
        }

        private void take(int way, int most, boolean busesAlone) {
            int many = Math.min(most, busesAlone ? buses[way] : waits[way]);
            int others = busesAlone ? 0 : Math.min(many, waits[way] - buses[way]);
            waits[way] -= many;
            buses[way] -= many - others;
            carried += many;
        }

        private int painOf(int way, int minute) {
            return within(value(PAIN, way, minute), 0, 99) * waits[way];
        }

        private int value(int part, int way, int minute) {
            names[0] = waits[way];
            names[1] = lanesOfWay[way];
            names[2] = minute;
            names[3] = way;
            names[4] = buses[way];
            names[5] = setting.empty;
            return rule.value(part, names);
        }

        private static int within(int v, int least, int most) {
            return Math.max(least, Math.min(most, v));
        }
    }
}

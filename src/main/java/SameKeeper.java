import java.util.Arrays;

/** A keeper's week told as a text: which weeks agree with what he tells himself of tomorrow. */
public final class SameKeeper {
    public static final int NONE = -1;
    public static final long NOTHING = -1000000000000000L;

    private static final int MOST_DAYS = 9;
    private static final int MOODS = 10;
    private static final int ALL_MOODS = 1023;
    private static final int LAST_WEEK = 999;
    private static final int MOST_AHEAD = 30;
    private static final int MOST_ROWS = 16;

    private static final int BY_TAPE = 0;
    private static final int BY_TEXT = 1;
    private static final int BY_DAY = 2;
    private static final int BY_WEEK = 3;
    private static final int BY_UNDOING = 4;
    private static final int BY_STATE = 5;
    private static final int REFUSALS = 6;

    private static final int TO_AGREE = 0;
    private static final int TO_COME_SO = 1;
    private static final int TO_REST = 2;

    private final Tape tape = new Tape(Tape.ROOM);
    private final Tape picture = new Tape(3 * MOST_DAYS + 4);
    private final Reader reader = new Reader(tape);
    private final LockText lockText = new LockText(reader);
    private final Question question = new Question(reader);
    private Lock held = new Lock();
    private Lock draft = new Lock();
    private final State now = new State();
    private final State trial = new State();
    private final Past past = new Past();
    private final Table table = new Table();
    private final Graph graph = new Graph(table);
    private final int[] row = new int[MOST_DAYS];
    private final int[] otherRow = new int[MOST_DAYS];
    private final int[] heardRows = new int[MOST_ROWS];
    private int heardCount = 0;
    private final int[] refused = new int[REFUSALS];
    private long drawn = 1;

    public SameKeeper() {
    }

    // ---- the tape

    public int feed(int a, int b, int c, int d, int e) {
        if (tape.length + 20 > Tape.ROOM) {
            return refuse(BY_TAPE);
        }
        tape.addNumber(a);
        tape.addNumber(b);
        tape.addNumber(c);
        tape.addNumber(d);
        tape.addNumber(e);
        return tape.length;
    }

    public boolean end(int n) {
        if (n < 0 || n > tape.length) {
            return refuseIt(BY_TAPE);
        }
        tape.length = n;
        return true;
    }

    // ---- the lock

    public int lock() {
        lockText.read(draft);
        tape.length = 0;
        if (reader.fault != 0) {
            return refuse(BY_TEXT);
        }
        Lock former = held;
        held = draft;
        draft = former;
        now.begin(held);
        past.forget();
        table.forget();
        heardCount = 0;
        return held.statements;
    }

    public int fault(int what) {
        switch (what) {
            case 0:
                return reader.fault;
            case 1:
                return reader.place;
            default:
                return NONE;
        }
    }

    public int has(int what) {
        switch (what) {
            case 0:
                return now.days;
            case 1:
                return now.week;
            case 2:
                return now.mood;
            case 3:
                return Integer.bitCount(now.mute);
            case 4:
                return past.toldOf(now.kept);
            case 5:
                return heardCount;
            case 6:
                return past.acts;
            default:
                return NONE;
        }
    }

    public int day(int day, int what) {
        if (!isDay(day)) {
            return NONE;
        }
        switch (what) {
            case 0:
                return now.barge[day];
            case 1:
                return now.wet[day];
            case 2:
                return now.isMute(day) ? 1 : 0;
            default:
                return NONE;
        }
    }

    public int told(int day, int mood) {
        if (!isDay(day) || !isDigit(mood) || now.isMute(day)) {
            return NONE;
        }
        table.fit(held, now);
        return table.said[day * MOODS + mood];
    }

    public int does(int day, int ahead, int word) {
        if (!isDay(day) || !isDigit(ahead)) {
            return NONE;
        }
        table.fit(held, now);
        int at = day * MOODS + ahead;
        if (now.isMute(day)) {
            return table.alone[at];
        }
        return isDigit(word) ? table.turned[at * MOODS + word] : NONE;
    }

    public long kept(int k, int what) {
        int told = past.toldOf(now.kept);
        if (k < 0 || k >= told) {
            return NOTHING;
        }
        return past.ofKept(now.kept - told + k, what);
    }

    // ---- weeks that agree

    public long weeks() {
        if (!isLocked()) {
            return NOTHING;
        }
        lookAt(now);
        return graph.countWays();
    }

    public int mood(int k, int day) {
        if (!isDay(day) || !takeWeek(k, row)) {
            return NONE;
        }
        return row[day];
    }

    public long many(int day, int mood) {
        if (!isDay(day) || !isDigit(mood)) {
            return NOTHING;
        }
        lookAt(now);
        graph.countWays();
        graph.countComings();
        return graph.timesOf(day, mood);
    }

    public int hushed() {
        return fewest(TO_AGREE, 0, 0);
    }

    public int wished(int day, int mood) {
        if (!isDay(day) || !isDigit(mood)) {
            return NONE;
        }
        return fewest(TO_COME_SO, day, mood);
    }

    public int lies() {
        if (!isLocked()) {
            return NONE;
        }
        table.fit(held, now);
        int bits = 0;
        for (int lie = 0; lie < MOODS; lie++) {
            graph.lay(now, now.mute, lie);
            if (graph.settle()) {
                bits |= 1 << lie;
            }
        }
        return bits;
    }

    public int later(int n) {
        if (!isLocked() || n < 0 || n > MOST_AHEAD) {
            return NONE;
        }
        trial.copy(now);
        for (int i = 0; i < n; i++) {
            if (!stepAhead()) {
                return NONE;
            }
        }
        return trial.mood;
    }

    public int ring() {
        if (!isLocked()) {
            return NONE;
        }
        trial.copy(now);
        for (int i = 1; i <= MOST_AHEAD; i++) {
            if (!stepAhead()) {
                return NONE;
            }
            if (trial.mood == now.mood) {
                return i;
            }
        }
        return NONE;
    }

    public int frees(int day, int what) {
        if (!isDay(day) || what < 0 || what > 1) {
            return NONE;
        }
        trial.copy(now);
        int best = 0;
        long most = NOTHING;
        for (int much = 0; much < MOODS; much++) {
            trial.put(day, what, much);
            lookAt(trial);
            long ways = graph.countWays();
            if (ways > most) {
                most = ways;
                best = much;
            }
        }
        return best;
    }

    public long pay() {
        if (!isLocked() || !lookAt(now)) {
            return NOTHING;
        }
        return graph.bestPay();
    }

    public int paid(int day) {
        if (!isDay(day) || !lookAt(now)) {
            return NONE;
        }
        graph.bestPay();
        graph.takeBestPaid(row);
        return row[day];
    }

    public int rest() {
        return fewest(TO_REST, 0, 0);
    }

    public int unlike(int one, int other) {
        if (!isLocked() || !takeWeek(one, row) || !takeWeek(other, otherRow)) {
            return NONE;
        }
        int unlike = 0;
        for (int d = 0; d < now.days; d++) {
            if (row[d] != otherRow[d]) {
                unlike++;
            }
        }
        return unlike;
    }

    // ---- what was heard

    public int known(int day, int word, int of) {
        if (!isDay(of) || !isWordOf(day, word)) {
            return NONE;
        }
        return lookByWord(day, word) ? graph.moodsOf(of) : 0;
    }

    public int sure(int day, int word) {
        if (!isWordOf(day, word) || !lookByWord(day, word)) {
            return NONE;
        }
        int sure = 0;
        for (int d = day; d < now.days && Integer.bitCount(graph.moodsOf(d)) == 1; d++) {
            sure++;
        }
        return sure;
    }

    public int hear() {
        boolean fits = isLocked() && tellsRows();
        int rows = tape.length / 2;
        tape.length = 0;
        if (!fits) {
            return refuse(BY_TEXT);
        }
        for (int i = 0; i < rows && i < MOST_ROWS; i++) {
            heardRows[i] = tape.left(2 * i) * MOODS + tape.left(2 * i + 1);
        }
        heardCount = rows;
        return rows;
    }

    public long heard() {
        if (!isLocked()) {
            return NOTHING;
        }
        return lookByHeard() ? graph.countWays() : 0;
    }

    public long tells(int what) {
        if (!isLocked() || what < 0 || what > 1 || !lookByHeard()) {
            return NOTHING;
        }
        graph.countWays();
        graph.countComings();
        int telling = 0;
        long fewest = graph.mostLeft(0);
        for (int d = 1; d < now.days; d++) {
            long left = graph.mostLeft(d);
            if (left < fewest) {
                fewest = left;
                telling = d;
            }
        }
        return what == 0 ? telling : fewest;
    }

    public int same(int past, int each) {
        if (past < 0 || past > 1439 || each < 0 || each > 1439) {
            return NONE;
        }
        // behind 1440 weeks the remainders come round again
        for (int weeks = 0; weeks < 1440; weeks++) {
            if ((past - each * weeks) % 1440 == 0) {
                return weeks;
            }
        }
        return NONE;
    }

    // ---- acts

    public boolean set(int day, int what, int much) {
        if (!isDay(day) || what < 0 || what > 1 || !isDigit(much) || now.amount(day, what) == much) {
            return refuseIt(BY_DAY);
        }
        past.save(now);
        now.put(day, what, much);
        return true;
    }

    public boolean mute(int day, int on) {
        if (!isDay(day) || on < 0 || on > 1 || now.isMute(day) == (on == 1)) {
            return refuseIt(BY_DAY);
        }
        past.save(now);
        now.mute ^= 1 << day;
        return true;
    }

    public int go() {
        if (!isLocked() || now.week >= LAST_WEEK || !lookAt(now)) {
            return refuse(BY_WEEK);
        }
        past.save(now);
        long agreed = graph.countWays();
        graph.takeFirst(row);
        pass(agreed);
        return now.mood;
    }

    public int chance(int n) {
        if (!isLocked() || n < 1 || n > MOST_AHEAD || now.week + n > LAST_WEEK) {
            return refuse(BY_WEEK);
        }
        past.save(now);
        int went = 0;
        for (int i = 0; i < n && passByChance(); i++) {
            went++;
        }
        return went;
    }

    public boolean undo() {
        if (!past.restore(now)) {
            return refuseIt(BY_UNDOING);
        }
        return true;
    }

    public boolean seed(int seed) {
        if (seed < 0) {
            return refuseIt(BY_STATE);
        }
        drawn = seed;
        return true;
    }

    // ---- questions

    public long ask() {
        if (!isLocked()) {
            tape.length = 0;
            return NOTHING;
        }
        question.read();
        tape.length = 0;
        if (reader.fault != 0) {
            return NOTHING;
        }
        if (lookAt(now)) {
            graph.takeFirst(row);
        } else {
            Arrays.fill(row, NONE);
        }
        graph.countWays();
        graph.countComings();
        return question.answer(now, graph, row);
    }

    // ---- images, refusals

    public int image() {
        picture.length = 0;
        picture.add(now.week >> 8);
        picture.add(now.week & 255);
        picture.add(now.mood);
        for (int d = 0; d < now.days; d++) {
            picture.add(now.barge[d]);
            picture.add(now.wet[d]);
            picture.add(now.isMute(d) ? 1 : 0);
        }
        picture.add(picture.checkOf(picture.length));
        return picture.length;
    }

    public int octet(int k) {
        return k >= 0 && k < picture.length ? picture.left(k) : NONE;
    }

    public boolean on() {
        boolean fits = isLocked() && tellsImage();
        tape.length = 0;
        if (!fits) {
            return refuseIt(BY_STATE);
        }
        now.week = tape.left(0) * 256 + tape.left(1);
        now.mood = tape.left(2);
        now.mute = 0;
        for (int d = 0; d < now.days; d++) {
            now.barge[d] = tape.left(3 * d + 3);
            now.wet[d] = tape.left(3 * d + 4);
            now.mute |= tape.left(3 * d + 5) << d;
        }
        now.kept = 0;
        past.forget();
        return true;
    }

    public int status(int what) {
        return what >= 0 && what < REFUSALS ? refused[what] : NONE;
    }

    // ---- what the calls share

    private int refuse(int what) {
        refused[what]++;
        return NONE;
    }

    private boolean refuseIt(int what) {
        refused[what]++;
        return false;
    }

    private boolean isLocked() {
        return now.days > 0;
    }

    private boolean isDay(int day) {
        return day >= 0 && day < now.days;
    }

    private static boolean isDigit(int number) {
        return number >= 0 && number < MOODS;
    }

    private boolean isWordOf(int day, int word) {
        return isDay(day) && !now.isMute(day) && isDigit(word);
    }

    private boolean lookAt(State state) {
        table.fit(held, state);
        graph.lay(state, state.mute, 0);
        return graph.settle();
    }

    private boolean lookByWord(int day, int word) {
        table.fit(held, now);
        graph.lay(now, now.mute, 0);
        graph.allowOnly(day, table.moodsThatSay(day, word));
        return graph.settle();
    }

    private boolean lookByHeard() {
        table.fit(held, now);
        graph.lay(now, now.mute, 0);
        for (int i = 0; i < heardCount && i < MOST_ROWS; i++) {
            int day = heardRows[i] / MOODS;
            if (!isDay(day) || now.isMute(day)) {
                return false;
            }
            graph.allowOnly(day, table.moodsThatSay(day, heardRows[i] % MOODS));
        }
        return graph.settle();
    }

    private boolean takeWeek(int k, int[] into) {
        lookAt(now);
        if (k < 0 || k >= graph.countWays()) {
            return false;
        }
        graph.takeNumbered(k, into);
        return true;
    }

    private boolean stepAhead() {
        if (trial.week >= LAST_WEEK || !lookAt(trial)) {
            return false;
        }
        graph.takeFirst(row);
        trial.mood = row[trial.days - 1];
        trial.week++;
        return true;
    }

    // the fewest days come first, and of as many the least bits
    private int fewest(int wanted, int day, int mood) {
        if (!isLocked()) {
            return NONE;
        }
        table.fit(held, now);
        for (int size = 0; size <= now.days; size++) {
            for (int set = 0; set < 1 << now.days; set++) {
                boolean fits = Integer.bitCount(set) == size && (set & now.mute) == 0;
                if (fits && serves(wanted, now.mute | set, day, mood)) {
                    return set;
                }
            }
        }
        return NONE;
    }

    private boolean serves(int wanted, int mute, int day, int mood) {
        graph.lay(now, mute, 0);
        if (!graph.settle()) {
            return false;
        }
        switch (wanted) {
            case TO_COME_SO:
                return graph.moodsOf(day) == 1 << mood;
            case TO_REST:
                return isAtRest(mute);
            default:
                return true;
        }
    }

    // the graph has been settled by these mute days
    private boolean isAtRest(int mute) {
        graph.takeFirst(row);
        for (int d = 0; d < now.days; d++) {
            if (now.isMute(d)) {
                continue;
            }
            graph.lay(now, mute ^ (1 << d), 0);
            if (!graph.settle()) {
                continue;
            }
            graph.takeFirst(otherRow);
            if (table.wages[d * MOODS + otherRow[d]] > table.wages[d * MOODS + row[d]]) {
                return false;
            }
        }
        return true;
    }

    private void pass(long agreed) {
        int last = row[now.days - 1];
        past.keep(now, agreed, last);
        now.mood = last;
        now.week++;
    }

    private boolean passByChance() {
        for (int d = 0; d < now.days; d++) {
            if (draw(100) < held.rain) {
                now.wet[d] = Math.min(now.wet[d] + 1, MOODS - 1);
            } else {
                now.barge[d] = (int) draw(MOODS);
            }
        }
        lookAt(now);
        long agreed = graph.countWays();
        if (agreed == 0) {
            return false;
        }
        graph.takeNumbered(draw(agreed), row);
        pass(agreed);
        return true;
    }

    private long draw(long of) {
        drawn = (1103515245L * drawn + 12345L) & 0x7fffffffL;
        return of > 0 ? (drawn / 64) % of : 0;
    }

    private boolean tellsRows() {
        if (tape.length < 2 || tape.length > 2 * MOST_ROWS || tape.length % 2 != 0) {
            return false;
        }
        for (int i = 0; i < tape.length; i += 2) {
            if (!isWordOf(tape.left(i), tape.left(i + 1))) {
                return false;
            }
        }
        return true;
    }

    private boolean tellsImage() {
        int last = 3 * now.days + 3;
        if (tape.length != last + 1 || tape.left(last) != tape.checkOf(last)) {
            return false;
        }
        if (tape.left(0) * 256 + tape.left(1) > LAST_WEEK || tape.left(2) >= MOODS) {
            return false;
        }
        for (int at = 3; at < last; at += 3) {
            if (tape.left(at) >= MOODS || tape.left(at + 1) >= MOODS || tape.left(at + 2) > 1) {
                return false;
            }
        }
        return true;
    }

    /** A row of bytes that grows at its end. */
    private static final class Tape {
        static final int ROOM = 1600;
        final int[] bytes;
        int length = 0;

        Tape(int room) {
            bytes = new int[Math.max(room, 0)];
        }

        void add(int octet) {
            if (length < bytes.length) {
                bytes[length] = octet & 255;
                length++;
            }
        }

        void addNumber(int number) {
            add(number >>> 24);
            add(number >>> 16);
            add(number >>> 8);
            add(number);
        }

        // also behind the length: a call lets the tape go before it uses what stood on it
        int left(int k) {
            return k >= 0 && k < bytes.length ? bytes[k] : 0;
        }

        int checkOf(int count) {
            int check = 139;
            for (int i = 0; i < count; i++) {
                check = (3 * check + left(i)) % 251;
            }
            return check;
        }
    }

    /** The tape as words, numbers and signs, one at a time, and the first fault along it. */
    private static final class Reader {
        static final int END = -1;
        static final int WRONG = -2;
        static final int NUMBER = -3;

        // a sign is its byte; a word is its place among WORDS behind all bytes
        static final int LOCK = 256;
        static final int FROM = 257;
        static final int BARGE = 258;
        static final int WET = 259;
        static final int MUTE = 260;
        static final int SAYS = 261;
        static final int DOES = 262;
        static final int WAGE = 263;
        static final int RAIN = 264;
        static final int MOOD = 265;
        static final int DAY = 266;
        static final int WEEK = 267;
        static final int TOLD = 268;
        static final int ALONE = 269;
        static final int NUMBERED = 270;
        static final int FIRST = 271;
        static final int WEEKS = 272;
        static final int OR = 273;
        static final int AND = 274;
        static final int NOT = 275;
        static final int ALL = 276;
        static final int MIN = 277;
        static final int MAX = 278;
        static final int LAST = 279;
        static final int OFTEN = 280;
        static final int TOTAL = 281;
        static final int MOST = 282;
        static final int LEAST = 283;
        private static final int WORD_ROOM = 6;
        private static final String WORDS = "lock  from  barge wet   mute  says  does  wage  rain  mood  day   week  told  alone numberfirst weeks or    and   not   all   min   max   last  often total most  least ";

        static final int NOT_SO = 1;
        static final int CANNOT_BE = 2;
        static final int TOO_DEEP = 4;
        static final int TOO_MANY = 5;
        static final int MOST_OPEN = 6;
        static final int MOST_DIGITS = 4;

        private final Tape tape;
        private int at = 0;
        private int value = 0;
        private int open = 0;
        int token = END;
        int start = 0;
        int fault = 0;
        int place = NONE;

        Reader(Tape tape) {
            this.tape = tape;
        }

        void begin() {
            at = 0;
            open = 0;
            fault = 0;
            place = NONE;
            token = END;
            step();
        }

        // behind a fault nothing is wanted any more, so that the first one stays
        void fail(int kind, int where) {
            if (fault == 0) {
                fault = kind;
                place = where;
            }
            token = WRONG;
        }

        void failHere() {
            fail(NOT_SO, start);
        }

        void step() {
            if (fault != 0) {
                return;
            }
            int behind = token == NUMBER || token >= LOCK ? at : NONE;
            while (at < tape.length && (tape.bytes[at] == ' ' || tape.bytes[at] == '\n')) {
                at++;
            }
            start = at;
            if (at >= tape.length) {
                token = END;
                return;
            }
            int sign = tape.bytes[at];
            if (sign >= 'a' && sign <= 'z') {
                readWord();
            } else if (sign >= '0' && sign <= '9') {
                readNumber();
            } else {
                at++;
                token = sign;
                return;
            }
            // words and numbers side by side need a blank
            if (start == behind) {
                token = WRONG;
            }
        }

        private void readWord() {
            while (at < tape.length && tape.bytes[at] >= 'a' && tape.bytes[at] <= 'z') {
                at++;
            }
            token = WRONG;
            if (at - start > WORD_ROOM) {
                return;
            }
            for (int k = 0; k + WORD_ROOM <= WORDS.length(); k += WORD_ROOM) {
                boolean alike = true;
                for (int i = 0; i < WORD_ROOM && alike; i++) {
                    int letter = start + i < at ? tape.bytes[start + i] : ' ';
                    alike = WORDS.charAt(k + i) == letter;
                }
                if (alike) {
                    token = LOCK + k / WORD_ROOM;
                    return;
                }
            }
        }

        private void readNumber() {
            value = 0;
            while (at < tape.length && tape.bytes[at] >= '0' && tape.bytes[at] <= '9') {
                if (at - start < MOST_DIGITS) {
                    value = value * 10 + tape.bytes[at] - '0';
                }
                at++;
            }
            token = NUMBER;
        }

        boolean takes(int wanted) {
            if (token != wanted) {
                return false;
            }
            step();
            return true;
        }

        void needs(int wanted) {
            if (token == wanted) {
                step();
            } else {
                failHere();
            }
        }

        /** The number that stands here; the least one that can be, with a fault. */
        int takeNumber(int least, int most) {
            int number = value;
            if (token != NUMBER) {
                failHere();
                return least;
            }
            if (at - start > MOST_DIGITS) {
                fail(NOT_SO, start + MOST_DIGITS);
                return least;
            }
            if (number < least || number > most) {
                fail(CANNOT_BE, start);
                return least;
            }
            step();
            return number;
        }

        boolean opens(int wanted) {
            if (token != wanted) {
                failHere();
                return false;
            }
            if (open >= MOST_OPEN) {
                fail(TOO_DEEP, start);
                return false;
            }
            open++;
            step();
            return true;
        }

        void shuts() {
            open--;
        }
    }

    /** What was read, as steps that work on a stack; parts of it are run on their own. */
    private static final class Code {
        // a step below NAMED is a number
        static final int NAMED = 10000;
        static final int MOOD = 10000;
        static final int BARGE = 10001;
        static final int WET = 10002;
        static final int DAY = 10003;
        static final int WEEK = 10004;
        static final int TOLD = 10005;
        static final int ALONE = 10006;
        static final int MUTE = 10007;
        static final int FIRST = 10008;
        static final int NAMES = 9;
        static final int OF_ONE = 20000;
        static final int WEEKS = 20000;
        static final int NOT = 20001;
        static final int OF_TWO = 30000;
        static final int PLUS = 30000;
        static final int MINUS = 30001;
        static final int TIMES = 30002;
        static final int PER = 30003;
        static final int MIN = 30004;
        static final int MAX = 30005;
        static final int BELOW = 30006;
        static final int ABOVE = 30007;
        static final int EQUAL = 30008;
        static final int AND = 30009;
        static final int OR = 30010;

        private static final long BOUND = 1000000L;

        private final int[] steps = new int[Tape.ROOM];
        // seven levels, each with at most three values that wait
        private final long[] stack = new long[64];
        private final long[] names = new long[NAMES];
        private final long[] counts = new long[MOODS];
        int length = 0;
        boolean mindsWeek = false;

        void clear() {
            length = 0;
            mindsWeek = false;
        }

        void add(int step) {
            if (length < steps.length) {
                steps[length] = step;
                length++;
            }
            mindsWeek |= step == WEEK;
        }

        void name(int name, long value) {
            int k = name - NAMED;
            if (k >= 0 && k < NAMES) {
                names[k] = value;
            }
        }

        void nameCount(int mood, long value) {
            if (mood >= 0 && mood < MOODS) {
                counts[mood] = value;
            }
        }

        long run(int from, int to) {
            int top = 0;
            for (int i = Math.max(from, 0); i < to && i < length; i++) {
                int step = steps[i];
                if (step >= OF_TWO) {
                    if (top > 1) {
                        top--;
                        stack[top - 1] = ofTwo(step, stack[top - 1], stack[top]);
                    }
                } else if (step >= OF_ONE) {
                    if (top > 0) {
                        stack[top - 1] = ofOne(step, stack[top - 1]);
                    }
                } else if (top < stack.length) {
                    int name = step - NAMED;
                    stack[top] = name >= 0 && name < NAMES ? names[name] : step;
                    top++;
                }
            }
            return top > 0 ? stack[0] : 0;
        }

        private long ofOne(int step, long a) {
            if (step == NOT) {
                return a == 0 ? 1 : 0;
            }
            return a >= 0 && a < MOODS ? counts[(int) a] : 0;
        }

        private static long ofTwo(int step, long a, long b) {
            switch (step) {
                case PLUS:
                    return bounded(a + b);
                case MINUS:
                    return bounded(a - b);
                case TIMES:
                    return bounded(a * b);
                case PER:
                    return b == 0 ? 0 : Math.floorDiv(a, b);
                case MIN:
                    return Math.min(a, b);
                case MAX:
                    return Math.max(a, b);
                case BELOW:
                    return a < b ? 1 : 0;
                case ABOVE:
                    return a > b ? 1 : 0;
                case EQUAL:
                    return a == b ? 1 : 0;
                case AND:
                    return a != 0 && b != 0 ? 1 : 0;
                default:
                    return a != 0 || b != 0 ? 1 : 0;
            }
        }

        private static long bounded(long value) {
            if (value > BOUND) {
                return BOUND;
            }
            return value < -BOUND ? -BOUND : value;
        }
    }

    /** Reads a SUM into code; which names it may have tells the kind. */
    private static final class Sums {
        static final int OF_MOOD = 0;
        static final int OF_DEED = 1;
        static final int OF_QUESTION = 2;

        private final Reader reader;
        private final int kind;

        Sums(Reader reader, int kind) {
            this.reader = reader;
            this.kind = kind;
        }

        void read(Code code) {
            readSum(code);
        }

        private void readSum(Code code) {
            readProduct(code);
            for (int i = 0; i < Tape.ROOM && (reader.token == '+' || reader.token == '-'); i++) {
                int step = reader.token == '+' ? Code.PLUS : Code.MINUS;
                reader.step();
                readProduct(code);
                code.add(step);
            }
        }

        private void readProduct(Code code) {
            readPart(code);
            for (int i = 0; i < Tape.ROOM && (reader.token == '*' || reader.token == '/'); i++) {
                int step = reader.token == '*' ? Code.TIMES : Code.PER;
                reader.step();
                readPart(code);
                code.add(step);
            }
        }

        // the reader refuses to open a seventh level, so that this goes no deeper
        private void readPart(Code code) {
            int token = reader.token;
            if (token == Reader.NUMBER) {
                code.add(reader.takeNumber(0, 9999));
            } else if (token == '(') {
                if (reader.opens('(')) {
                    readSum(code);
                    reader.shuts();
                    reader.needs(')');
                }
            } else if (token == Reader.MIN || token == Reader.MAX) {
                reader.step();
                readPair(code, token == Reader.MIN ? Code.MIN : Code.MAX);
            } else if (token == Reader.WEEKS && kind == OF_QUESTION) {
                if (reader.opens(Reader.WEEKS)) {
                    readPart(code);
                    code.add(Code.WEEKS);
                    reader.shuts();
                }
            } else {
                int name = kind == OF_QUESTION ? nameInQuestion(token) : nameInLock(token);
                if (name == NONE) {
                    reader.failHere();
                } else {
                    code.add(name);
                    reader.step();
                }
            }
        }

        private void readPair(Code code, int step) {
            if (reader.opens('(')) {
                readSum(code);
                reader.needs(',');
                readSum(code);
                reader.shuts();
                reader.needs(')');
                code.add(step);
            }
        }

        private int nameInLock(int token) {
            switch (token) {
                case Reader.MOOD:
                    return Code.MOOD;
                case Reader.BARGE:
                    return Code.BARGE;
                case Reader.WET:
                    return Code.WET;
                case Reader.DAY:
                    return Code.DAY;
                case Reader.WEEK:
                    return Code.WEEK;
                case Reader.TOLD:
                    return kind == OF_DEED ? Code.TOLD : NONE;
                case Reader.ALONE:
                    return kind == OF_DEED ? Code.ALONE : NONE;
                default:
                    return NONE;
            }
        }

        private static int nameInQuestion(int token) {
            switch (token) {
                case Reader.NUMBERED:
                    return Code.DAY;
                case Reader.BARGE:
                    return Code.BARGE;
                case Reader.WET:
                    return Code.WET;
                case Reader.MUTE:
                    return Code.MUTE;
                case Reader.FIRST:
                    return Code.FIRST;
                case Reader.WEEK:
                    return Code.WEEK;
                default:
                    return NONE;
            }
        }
    }

    /** What a text of a lock tells. */
    private static final class Lock {
        static final int SAYS = 0;
        static final int DOES = 1;
        static final int WAGE = 2;
        static final int SUMS = 3;

        final Code code = new Code();
        final int[] barge = new int[MOST_DAYS];
        final int[] wet = new int[MOST_DAYS];
        final int[] from = new int[SUMS];
        final int[] to = new int[SUMS];
        int days = 0;
        int mood = 0;
        int mute = 0;
        int rain = 0;
        int statements = 0;

        void clear() {
            code.clear();
            Arrays.fill(barge, 0);
            Arrays.fill(wet, 0);
            Arrays.fill(from, 0);
            Arrays.fill(to, 0);
            mute = 0;
            rain = 0;
            statements = 0;
        }

        boolean hasSum(int which) {
            return to[which] > from[which];
        }

        void beginSum(int which) {
            from[which] = code.length;
        }

        void endSum(int which) {
            to[which] = code.length;
        }

        void addUntold() {
            for (int which = SAYS; which <= WAGE; which++) {
                if (!hasSum(which)) {
                    beginSum(which);
                    code.add(which == DOES ? Code.TOLD : Code.MOOD);
                    endSum(which);
                }
            }
        }
    }

    /** Reads the text of a lock. */
    private static final class LockText {
        private static final int MOST_STATEMENTS = 60;

        private final Reader reader;
        private final Sums ofMood;
        private final Sums ofDeed;

        LockText(Reader reader) {
            this.reader = reader;
            ofMood = new Sums(reader, Sums.OF_MOOD);
            ofDeed = new Sums(reader, Sums.OF_DEED);
        }

        void read(Lock lock) {
            lock.clear();
            reader.begin();
            readOpening(lock);
            while (lock.statements < MOST_STATEMENTS && reader.fault == 0 && reader.token != Reader.END) {
                switch (reader.token) {
                    case Reader.SAYS:
                        readSumOf(lock, Lock.SAYS, ofMood);
                        break;
                    case Reader.DOES:
                        readSumOf(lock, Lock.DOES, ofDeed);
                        break;
                    case Reader.WAGE:
                        readSumOf(lock, Lock.WAGE, ofMood);
                        break;
                    default:
                        readNumbers(lock);
                }
                reader.needs(';');
                lock.statements++;
            }
            if (reader.fault == 0 && reader.token != Reader.END) {
                reader.fail(Reader.TOO_MANY, reader.start);
            }
            lock.addUntold();
        }

        private void readOpening(Lock lock) {
            reader.needs(Reader.LOCK);
            lock.days = reader.takeNumber(2, MOST_DAYS);
            reader.needs(Reader.FROM);
            lock.mood = reader.takeNumber(0, MOODS - 1);
            reader.needs(';');
            lock.statements = 1;
        }

        private void readNumbers(Lock lock) {
            switch (reader.token) {
                case Reader.BARGE:
                    readAmount(lock, lock.barge);
                    break;
                case Reader.WET:
                    readAmount(lock, lock.wet);
                    break;
                case Reader.MUTE:
                    readMute(lock);
                    break;
                case Reader.RAIN:
                    reader.step();
                    lock.rain = reader.takeNumber(0, 100);
                    break;
                default:
                    reader.failHere();
            }
        }

        private void readSumOf(Lock lock, int which, Sums sums) {
            if (lock.hasSum(which)) {
                reader.fail(Reader.TOO_MANY, reader.start);
                return;
            }
            reader.step();
            lock.beginSum(which);
            sums.read(lock.code);
            lock.endSum(which);
        }

        private void readAmount(Lock lock, int[] amounts) {
            reader.step();
            int day = reader.takeNumber(0, lock.days - 1);
            int much = reader.takeNumber(0, MOODS - 1);
            if (day < amounts.length) {
                amounts[day] = much;
            }
        }

        private void readMute(Lock lock) {
            reader.step();
            int where = reader.start;
            int day = reader.takeNumber(0, lock.days - 1);
            if (reader.fault == 0 && (lock.mute >> day & 1) == 1) {
                reader.fail(Reader.CANNOT_BE, where);
            }
            lock.mute |= 1 << day;
        }
    }

    /** Reads a question, and answers it. */
    private static final class Question {
        private final Reader reader;
        private final Sums sums;
        private final Code code = new Code();
        private int verb = Reader.WRONG;

        Question(Reader reader) {
            this.reader = reader;
            sums = new Sums(reader, Sums.OF_QUESTION);
        }

        void read() {
            code.clear();
            reader.begin();
            verb = reader.token;
            switch (verb) {
                case Reader.FIRST:
                case Reader.LAST:
                case Reader.OFTEN:
                    reader.step();
                    readTest();
                    break;
                case Reader.TOTAL:
                case Reader.MOST:
                case Reader.LEAST:
                    reader.step();
                    sums.read(code);
                    break;
                default:
                    reader.failHere();
            }
            if (reader.token != Reader.END) {
                reader.failHere();
            }
        }

        private void readTest() {
            readBoth();
            for (int i = 0; i < Tape.ROOM && reader.takes(Reader.OR); i++) {
                readBoth();
                code.add(Code.OR);
            }
        }

        private void readBoth() {
            readFact();
            for (int i = 0; i < Tape.ROOM && reader.takes(Reader.AND); i++) {
                readFact();
                code.add(Code.AND);
            }
        }

        // the reader refuses to open a seventh level, so that this goes no deeper
        private void readFact() {
            if (reader.token == Reader.NOT) {
                if (reader.opens(Reader.NOT)) {
                    readFact();
                    code.add(Code.NOT);
                    reader.shuts();
                }
            } else if (reader.token == '[') {
                if (reader.opens('[')) {
                    readTest();
                    reader.shuts();
                    reader.needs(']');
                }
            } else if (reader.takes(Reader.ALL)) {
                code.add(1);
            } else {
                sums.read(code);
                int step = stepOf(reader.token);
                if (step == NONE) {
                    reader.failHere();
                } else {
                    reader.step();
                    sums.read(code);
                    code.add(step);
                }
            }
        }

        private static int stepOf(int sign) {
            switch (sign) {
                case '<':
                    return Code.BELOW;
                case '>':
                    return Code.ABOVE;
                case '=':
                    return Code.EQUAL;
                default:
                    return NONE;
            }
        }

        long answer(State state, Graph graph, int[] first) {
            long answer = isOfDays() ? NONE : 0;
            for (int d = 0; d < state.days && d < first.length; d++) {
                nameDay(state, graph, d, first[d]);
                answer = joined(answer, code.run(0, code.length), d);
            }
            return answer;
        }

        private boolean isOfDays() {
            return verb == Reader.FIRST || verb == Reader.LAST;
        }

        private void nameDay(State state, Graph graph, int day, int first) {
            code.name(Code.DAY, day);
            code.name(Code.BARGE, state.barge[day]);
            code.name(Code.WET, state.wet[day]);
            code.name(Code.MUTE, state.isMute(day) ? 1 : 0);
            code.name(Code.FIRST, first);
            code.name(Code.WEEK, state.week);
            for (int m = 0; m < MOODS; m++) {
                code.nameCount(m, graph.timesOf(day, m));
            }
        }

        private long joined(long answer, long value, int day) {
            switch (verb) {
                case Reader.FIRST:
                    return answer == NONE && value != 0 ? day : answer;
                case Reader.LAST:
                    return value != 0 ? day : answer;
                case Reader.OFTEN:
                    return value != 0 ? answer + 1 : answer;
                case Reader.TOTAL:
                    return answer + value;
                case Reader.MOST:
                    return day == 0 ? value : Math.max(answer, value);
                default:
                    return day == 0 ? value : Math.min(answer, value);
            }
        }
    }

    /** All that acts change; how many weeks are kept, so that undoing forgets the later ones. */
    private static final class State {
        final int[] barge = new int[MOST_DAYS];
        final int[] wet = new int[MOST_DAYS];
        int days = 0;
        int week = 0;
        int mood = 0;
        int mute = 0;
        int kept = 0;

        void begin(Lock lock) {
            days = lock.days;
            week = 0;
            mood = lock.mood;
            mute = lock.mute;
            kept = 0;
            System.arraycopy(lock.barge, 0, barge, 0, MOST_DAYS);
            System.arraycopy(lock.wet, 0, wet, 0, MOST_DAYS);
        }

        void copy(State other) {
            days = other.days;
            week = other.week;
            mood = other.mood;
            mute = other.mute;
            kept = other.kept;
            System.arraycopy(other.barge, 0, barge, 0, MOST_DAYS);
            System.arraycopy(other.wet, 0, wet, 0, MOST_DAYS);
        }

        boolean isMute(int day) {
            return (mute >> day & 1) == 1;
        }

        int amount(int day, int what) {
            return what == 0 ? barge[day] : wet[day];
        }

        void put(int day, int what, int much) {
            if (what == 0) {
                barge[day] = much;
            } else {
                wet[day] = much;
            }
        }
    }

    /** The acts that can be undone, and the weeks that went by. */
    private static final class Past {
        private static final int MOST_ACTS = 20;
        private static final int MOST_TOLD = 30;

        private final State[] states = new State[MOST_ACTS];
        int acts = 0;
        // all of them, not the last 30 alone: undoing brings older ones back among the told
        private final int[] weekOf = new int[LAST_WEEK + 1];
        private final long[] agreedOf = new long[LAST_WEEK + 1];
        private final int[] moodOf = new int[LAST_WEEK + 1];

        Past() {
            for (int i = 0; i < MOST_ACTS; i++) {
                states[i] = new State();
            }
        }

        void forget() {
            acts = 0;
        }

        void save(State state) {
            if (acts >= MOST_ACTS) {
                State oldest = states[0];
                for (int i = 1; i < MOST_ACTS; i++) {
                    states[i - 1] = states[i];
                }
                states[MOST_ACTS - 1] = oldest;
                acts = MOST_ACTS - 1;
            }
            states[acts].copy(state);
            acts++;
        }

        boolean restore(State state) {
            if (acts <= 0) {
                return false;
            }
            acts--;
            state.copy(states[acts]);
            return true;
        }

        void keep(State state, long agreed, int last) {
            int k = state.kept;
            if (k >= 0 && k < weekOf.length) {
                weekOf[k] = state.week;
                agreedOf[k] = agreed;
                moodOf[k] = last;
                state.kept++;
            }
        }

        int toldOf(int kept) {
            return Math.min(kept, MOST_TOLD);
        }

        long ofKept(int k, int what) {
            if (k < 0 || k >= weekOf.length) {
                return NOTHING;
            }
            switch (what) {
                case 0:
                    return weekOf[k];
                case 1:
                    return agreedOf[k];
                case 2:
                    return moodOf[k];
                default:
                    return NOTHING;
            }
        }
    }

    /** What the sums of the lock give for each day, kept until the day's barge, wet or week is another. */
    private static final class Table {
        final int[] said = new int[MOST_DAYS * MOODS];
        final int[] turned = new int[MOST_DAYS * MOODS * MOODS];
        final int[] alone = new int[MOST_DAYS * MOODS];
        final int[] open = new int[MOST_DAYS * MOODS];
        final long[] wages = new long[MOST_DAYS * MOODS];
        private final int[] keys = new int[MOST_DAYS];

        void forget() {
            Arrays.fill(keys, NONE);
        }

        void fit(Lock lock, State state) {
            int week = lock.code.mindsWeek ? state.week : 0;
            for (int d = 0; d < state.days && d < MOST_DAYS; d++) {
                int key = (week * MOODS + state.barge[d]) * MOODS + state.wet[d];
                if (keys[d] != key) {
                    keys[d] = key;
                    nameDay(lock.code, state, d);
                    fillWords(lock, d);
                    fillDeeds(lock, d);
                }
            }
        }

        private static void nameDay(Code code, State state, int day) {
            code.name(Code.DAY, day);
            code.name(Code.BARGE, state.barge[day]);
            code.name(Code.WET, state.wet[day]);
            code.name(Code.WEEK, state.week);
        }

        private void fillWords(Lock lock, int day) {
            Code code = lock.code;
            for (int m = 0; m < MOODS; m++) {
                int at = day * MOODS + m;
                code.name(Code.MOOD, m);
                said[at] = Math.floorMod(code.run(lock.from[Lock.SAYS], lock.to[Lock.SAYS]), MOODS);
                wages[at] = code.run(lock.from[Lock.WAGE], lock.to[Lock.WAGE]);
            }
        }

        private void fillDeeds(Lock lock, int day) {
            Code code = lock.code;
            int from = lock.from[Lock.DOES];
            int to = lock.to[Lock.DOES];
            for (int p = 0; p < MOODS; p++) {
                int at = day * MOODS + p;
                code.name(Code.MOOD, p);
                code.name(Code.ALONE, 1);
                code.name(Code.TOLD, 0);
                alone[at] = Math.floorMod(code.run(from, to), MOODS);
                code.name(Code.ALONE, 0);
                for (int word = 0; word < MOODS; word++) {
                    code.name(Code.TOLD, word);
                    turned[at * MOODS + word] = Math.floorMod(code.run(from, to), MOODS);
                }
                open[at] = moodsBehind(day, p, 0);
            }
        }

        /** The moods, as bits, that a day which is not mute can have behind a mood, by a lie. */
        int moodsBehind(int day, int ahead, int lie) {
            int moods = 0;
            for (int m = 0; m < MOODS; m++) {
                int word = (said[day * MOODS + m] + lie) % MOODS;
                if (turned[(day * MOODS + ahead) * MOODS + word] == m) {
                    moods |= 1 << m;
                }
            }
            return moods;
        }

        int moodsThatSay(int day, int word) {
            int moods = 0;
            for (int m = 0; m < MOODS; m++) {
                if (said[day * MOODS + m] == word) {
                    moods |= 1 << m;
                }
            }
            return moods;
        }
    }

    /** The weeks that agree, as ways from the mood ahead of each day to the one at its end. */
    private static final class Graph {
        private static final int PLACES = (MOST_DAYS + 1) * MOODS;

        private final Table table;
        private final int[] leads = new int[MOST_DAYS * MOODS];
        private final int[] allowed = new int[MOST_DAYS];
        // moods ahead of a day from which the days from it on agree
        private final int[] live = new int[MOST_DAYS + 1];
        private final long[] ways = new long[PLACES];
        private final long[] comings = new long[PLACES];
        private final long[] gains = new long[PLACES];
        private int days = 0;
        private int start = 0;

        Graph(Table table) {
            this.table = table;
        }

        void lay(State state, int mute, int lie) {
            days = state.days;
            start = state.mood;
            Arrays.fill(allowed, ALL_MOODS);
            for (int d = 0; d < days; d++) {
                boolean muted = (mute >> d & 1) == 1;
                for (int p = 0; p < MOODS; p++) {
                    int at = d * MOODS + p;
                    if (muted) {
                        leads[at] = 1 << table.alone[at];
                    } else {
                        leads[at] = lie == 0 ? table.open[at] : table.moodsBehind(d, p, lie);
                    }
                }
            }
        }

        void allowOnly(int day, int moods) {
            allowed[day] &= moods;
        }

        /** Whether a week agrees; all that is asked of the graph is asked behind this. */
        boolean settle() {
            live[days] = ALL_MOODS;
            for (int d = days - 1; d >= 0; d--) {
                int alive = 0;
                for (int p = 0; p < MOODS; p++) {
                    if (next(d, p) != 0) {
                        alive |= 1 << p;
                    }
                }
                live[d] = alive;
            }
            return (live[0] >> start & 1) == 1;
        }

        private int next(int day, int ahead) {
            return leads[day * MOODS + ahead] & allowed[day] & live[day + 1];
        }

        int moodsOf(int day) {
            int moods = 1 << start;
            for (int d = 0; d <= day; d++) {
                int reached = 0;
                for (int p = 0; p < MOODS; p++) {
                    if ((moods >> p & 1) == 1) {
                        reached |= next(d, p);
                    }
                }
                moods = reached;
            }
            return moods;
        }

        void takeFirst(int[] row) {
            int ahead = start;
            for (int d = 0; d < days; d++) {
                ahead = Integer.numberOfTrailingZeros(next(d, ahead)) % MOODS;
                row[d] = ahead;
            }
        }

        long countWays() {
            for (int m = 0; m < MOODS; m++) {
                ways[days * MOODS + m] = 1;
            }
            for (int d = days - 1; d >= 0; d--) {
                for (int p = 0; p < MOODS; p++) {
                    int moods = next(d, p);
                    long sum = 0;
                    for (int m = 0; m < MOODS; m++) {
                        sum += (moods >> m & 1) == 1 ? ways[(d + 1) * MOODS + m] : 0;
                    }
                    ways[d * MOODS + p] = sum;
                }
            }
            return ways[start];
        }

        void countComings() {
            Arrays.fill(comings, 0);
            comings[start] = 1;
            for (int d = 0; d < days; d++) {
                for (int p = 0; p < MOODS; p++) {
                    int moods = next(d, p);
                    for (int m = 0; m < MOODS; m++) {
                        if ((moods >> m & 1) == 1) {
                            comings[(d + 1) * MOODS + m] += comings[d * MOODS + p];
                        }
                    }
                }
            }
        }

        /** Behind countWays and countComings. */
        long timesOf(int day, int mood) {
            int at = (day + 1) * MOODS + mood;
            return comings[at] * ways[at];
        }

        long mostLeft(int day) {
            long most = 0;
            for (int m = 0; m < MOODS; m++) {
                most = Math.max(most, timesOf(day, m));
            }
            return most;
        }

        /** Behind countWays, for a number below what it told. */
        void takeNumbered(long number, int[] row) {
            long left = number;
            int ahead = start;
            for (int d = 0; d < days; d++) {
                int moods = next(d, ahead);
                int chosen = 0;
                for (int m = 0; m < MOODS; m++) {
                    long here = (moods >> m & 1) == 1 ? ways[(d + 1) * MOODS + m] : 0;
                    if (left < here) {
                        chosen = m;
                        break;
                    }
                    left -= here;
                }
                row[d] = chosen;
                ahead = chosen;
            }
        }

        long bestPay() {
            for (int m = 0; m < MOODS; m++) {
                gains[days * MOODS + m] = 0;
            }
            for (int d = days - 1; d >= 0; d--) {
                for (int p = 0; p < MOODS; p++) {
                    int moods = next(d, p);
                    long most = NOTHING;
                    for (int m = 0; m < MOODS; m++) {
                        if ((moods >> m & 1) == 1) {
                            most = Math.max(most, gainBy(d, m));
                        }
                    }
                    gains[d * MOODS + p] = most;
                }
            }
            return gains[start];
        }

        private long gainBy(int day, int mood) {
            return table.wages[day * MOODS + mood] + gains[(day + 1) * MOODS + mood];
        }

        /** Behind bestPay, when a week agrees. */
        void takeBestPaid(int[] row) {
            int ahead = start;
            for (int d = 0; d < days; d++) {
                int moods = next(d, ahead);
                int chosen = 0;
                for (int m = 0; m < MOODS; m++) {
                    if ((moods >> m & 1) == 1 && gainBy(d, m) == gains[d * MOODS + ahead]) {
                        chosen = m;
                        break;
                    }
                }
                row[d] = chosen;
                ahead = chosen;
            }
        }
    }
}

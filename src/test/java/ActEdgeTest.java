import java.util.function.Consumer;

/** The edges that the document names for the tape, acts, images and refusals: promises 2, 3 and 30 to 40. */
public final class ActEdgeTest {
    private static final Sentences S = new Sentences();
    private static final int TERMS = Sentences.TERMS;
    private static final long NOTHING = SameKeeper.NOTHING;
    private static final int LEAST = Integer.MIN_VALUE;
    private static final int MOST = Integer.MAX_VALUE;
    private static final int BLANKS = 0x20202020;
    private static final int[] NO_DAYS = {-1, 3, 9, 10, 31, 32, LEAST, MOST};

    public static void main(String[] args) {
        feed();
        end();
        set();
        mute();
        go();
        draws();
        rain();
        noneAgrees();
        chance();
        undo();
        seed();
        image();
        octet();
        on();
        wrongImages();
        status();
        refusalsLeaveAll();
        manyCalls();
        S.end(2, 3, 4, 26, 30, 31, 32, 33, 34, 35, 37, 38, 39, 40);
    }

    /** The check is put behind the bytes. */
    private static int[] imageOf(int... bytes) {
        int[] all = java.util.Arrays.copyOf(bytes, bytes.length + 1);
        int c = 139;
        for (int b : bytes) {
            c = (3 * c + b) % 251;
        }
        all[bytes.length] = c;
        return all;
    }

    private static SameKeeper atWeek(String text, int week) {
        SameKeeper x = Calls.locked(text);
        int[] bytes = new int[3 * x.has(0) + 3];
        bytes[0] = week / 256;
        bytes[1] = week % 256;
        S.is("the image is on", Calls.on(x, imageOf(bytes)), true);
        return x;
    }

    private static int blanks(SameKeeper x) {
        return x.feed(BLANKS, BLANKS, BLANKS, BLANKS, BLANKS);
    }

    private static void feed() {
        S.of(2, "NONE, refused (0), if there would be more than 1600");
        SameKeeper x = new SameKeeper();
        for (int n = 20; n <= 1600; n += 20) {
            S.is("how many", blanks(x), n);
        }
        S.is("no more", blanks(x), -1);
        S.is("refused", Snapshot.refusals(x), "1 0 0 0 0 0");
        S.is("the tape stays", x.end(1600), true);
        x.end(1581);
        S.is("one too many", blanks(x), -1);
        S.is("refused again", Snapshot.refusals(x), "2 0 0 0 0 0");
        S.is("nothing of it came", x.end(1582), false);
        x.end(1580);
        S.is("just as many", blanks(x), 1600);
        S.of(2, "of each number the highest first");
        SameKeeper y = Calls.locked("lock 2 from 0;");
        y.feed(0x00000001, 0x05000000, 0, 0, 0);
        y.end(2);
        S.is("0, 0", y.hear(), 1);
        S.is("by day 0, word 0", y.known(0, 0, 0) == 1 && y.heard() == 10, true);
        y.feed(0x01090009, 0x00070108, 0xffffffff, 0, 0);
        y.end(8);
        S.is("two unlike words for day 1", y.hear(), 4);
        S.is("none", y.heard(), 0);
        y.feed(0xff000000, 0, 0, 0, 0);
        y.end(2);
        S.is("255 is no day", y.hear(), -1);
        S.of(2, "Twenty bytes come behind those on the tape");
        SameKeeper z = new SameKeeper();
        z.feed(0x6c6f636b, 0x20322066, 0x726f6d20, 0x303b3f3f, BLANKS);
        z.end(14);
        S.is("behind fourteen", blanks(z), 34);
        S.is("what was cut is gone", z.lock(), 1);
    }

    private static void end() {
        S.of(3, "false, refused (0), if it has not so many, or n is below 0");
        SameKeeper x = new SameKeeper();
        S.is("none of none", x.end(0), true);
        S.is("one of none", x.end(1), false);
        blanks(x);
        S.is("one too many", x.end(21), false);
        S.is("below 0", x.end(-1), false);
        S.is("far below 0", x.end(LEAST), false);
        S.is("far too many", x.end(MOST), false);
        S.is("refused", Snapshot.refusals(x), "5 0 0 0 0 0");
        S.is("all of them", x.end(20), true);
        S.is("one fewer", x.end(19), true);
        S.is("what is gone is gone", x.end(20), false);
        S.is("behind nineteen", blanks(x), 39);
        S.is("none of them", x.end(0), true);
        S.is("behind none", blanks(x), 20);
    }

    private static void set() {
        S.of(30, "A DAY's barge (what 0), wet (1) is so (0 .. 9): true");
        SameKeeper x = Calls.locked("lock 3 from 0;barge 0 5;wet 2 5;");
        S.is("barge 0", x.set(0, 0, 0), true);
        S.is("it is so", x.day(0, 0), 0);
        S.is("barge 9", x.set(0, 0, 9), true);
        S.is("it is so", x.day(0, 0), 9);
        S.is("wet 0", x.set(2, 1, 0), true);
        S.is("wet 9", x.set(2, 1, 9), true);
        S.is("it is so", x.day(2, 1), 9);
        S.is("the other stays", x.day(2, 0) + x.day(0, 1), 0);
        S.of(30, "false, refused (2), when it is that, there is none such, or for others");
        int refused = 0;
        S.is("it is that barge", x.set(0, 0, 9), false);
        S.is("it is that wet", x.set(2, 1, 9), false);
        S.is("it is 0", x.set(1, 0, 0), false);
        refused += 3;
        for (int much : new int[] {-1, 10, LEAST, MOST}) {
            S.is("much " + much, x.set(1, 0, much) || x.set(1, 1, much), false);
            refused += 2;
        }
        for (int what : new int[] {-1, 2, LEAST, MOST}) {
            S.is("what " + what, x.set(1, what, 5), false);
            refused++;
        }
        for (int d : NO_DAYS) {
            S.is("day " + d, x.set(d, 0, 5) || x.set(d, 1, 5), false);
            refused += 2;
        }
        S.is("refused", Snapshot.refusals(x), "0 0 " + refused + " 0 0 0");
        S.is("no more acts", x.has(6), 4);
    }

    private static void mute() {
        S.of(31, "A DAY is mute (on 1), or no more (0): true");
        SameKeeper x = Calls.locked("lock 3 from 0;mute 0;");
        S.is("the last is", x.mute(2, 1), true);
        S.is("the first no more", x.mute(0, 0), true);
        S.is("so", x.day(0, 2) * 100 + x.day(1, 2) * 10 + x.day(2, 2), 1);
        S.of(31, "false, refused (2), when it is so already, there is none such, or for others");
        int refused = 2;
        S.is("already", x.mute(2, 1), false);
        S.is("already not", x.mute(0, 0), false);
        for (int on : new int[] {-1, 2, LEAST, MOST}) {
            S.is("on " + on, x.mute(1, on) || x.mute(2, on), false);
            refused += 2;
        }
        for (int d : NO_DAYS) {
            S.is("day " + d, x.mute(d, 1) || x.mute(d, 0), false);
            refused += 2;
        }
        S.is("refused", Snapshot.refusals(x), "0 0 " + refused + " 0 0 0");
        S.is("no more acts", x.has(6), 2);
        S.is("one is mute", x.has(3), 1);
    }

    private static void go() {
        S.of(TERMS, "the MOOD of its last DAY is that in which he begins; the WEEK is one more (999 at most)");
        String on = "lock 3 from 4;does mood+day;";
        SameKeeper x = Calls.locked(on);
        S.is("the last day", x.go(), 7);
        S.is("he begins in it", x.has(2), 7);
        S.is("one more", x.has(1), 1);
        SameKeeper last = atWeek(on, 998);
        S.is("to 999", last.go(), 3);
        S.is("at 999", last.has(1), 999);
        S.of(TERMS, "A WEEK GOES by, as the first that AGREES; it can't, if none does");
        S.is("the first", Calls.locked("lock 2 from 4;does told*(1-day)+day*(told+(mood-6)*(mood-7));").go(), 0);
        S.is("none", Calls.locked("lock 2 from 4;does told+1;").go(), -1);
        S.of(32, "NONE, refused (3), when it can't, beyond WEEK 999, or without a lock");
        S.is("beyond 999", last.go(), -1);
        S.is("refused", Snapshot.refusals(last), "0 0 0 1 0 0");
        S.is("it stays at 999", last.has(1), 999);
        S.is("he stays", last.has(2), 3);
        S.is("one act", last.has(6), 1);
        S.is("one is kept", last.has(4), 1);
        SameKeeper none = Calls.locked("lock 2 from 4;does told+1;");
        S.is("it can't", none.go(), -1);
        S.is("refused", Snapshot.refusals(none), "0 0 0 1 0 0");
        S.is("no week, mood, act, nothing kept", none.has(1) == 0 && none.has(2) == 4 && none.has(6) == 0 && none.has(4) == 0, true);
        SameKeeper no = new SameKeeper();
        S.is("without a lock", no.go(), -1);
        S.is("refused", Snapshot.refusals(no), "0 0 0 1 0 0");
    }

    private static long next(long x) {
        return java.math.BigInteger.valueOf(x).multiply(java.math.BigInteger.valueOf(1103515245))
            .add(java.math.BigInteger.valueOf(12345)).mod(java.math.BigInteger.ONE.shiftLeft(31)).longValueExact();
    }

    private static void draws() {
        S.of(TERMS, "x (the seed) becomes (1103515245 x + 12345) mod 2 to the 31; floor(x / 64) mod m");
        for (int seed : new int[] {0, 1, 2, 63, 64, 99, 12345, 1 << 30, MOST - 1, MOST}) {
            SameKeeper x = Calls.locked("lock 9 from 0;");
            x.seed(seed);
            x.chance(2);
            long s = seed;
            long went = 0;
            int[] barge = new int[9];
            for (int week = 0; week < 2; week++) {
                for (int d = 0; d < 9; d++) {
                    s = next(next(s));
                    barge[d] = (int) (s / 64 % 10);
                }
                s = next(s);
                went = s / 64 % 1000000000;
            }
            for (int d = 0; d < 9; d++) {
                S.is("barge by " + seed, x.day(d, 0), barge[d]);
            }
            S.is("the week that goes by " + seed, x.has(2), went % 10);
        }
        S.of(TERMS, "a DRAW of how many: the one of that number (from 0 on) GOES by");
        for (int seed = 0; seed < 40; seed++) {
            SameKeeper x = Calls.locked("lock 2 from 0;does told*(1-day)+day*mood;");
            x.seed(seed);
            x.chance(1);
            S.is("of ten by " + seed, x.has(2), next(next(next(next(next(seed))))) / 64 % 10);
            S.is("how many agreed", x.kept(0, 1), 10);
        }
    }

    private static void rain() {
        S.of(TERMS, "below rain its wet is one more (9 at most), else a DRAW of 10 is its barge");
        for (int seed = 0; seed < 30; seed++) {
            long s = next(seed);
            long drawn = s / 64 % 100;
            for (long rain = drawn; rain <= drawn + 1; rain++) {
                SameKeeper x = Calls.locked("lock 2 from 0;barge 0 5;rain " + rain + ";");
                x.seed(seed);
                x.chance(1);
                S.is("wet, drawn " + drawn + " of rain " + rain, x.day(0, 1), rain > drawn ? 1 : 0);
                S.is("barge, drawn " + drawn + " of rain " + rain, x.day(0, 0), rain > drawn ? 5 : next(s) / 64 % 10);
            }
        }
        SameKeeper x = Calls.locked("lock 2 from 0;rain 100;wet 0 7;wet 1 9;");
        int[] want = {8, 9, 9};
        for (int w : want) {
            x.chance(1);
            S.is("wet", x.day(0, 1), w);
            S.is("9 at most", x.day(1, 1), 9);
        }
    }

    private static void noneAgrees() {
        S.of(TERMS, "if none does, that is all (these wets and barges stay)");
        SameKeeper x = Calls.locked("lock 2 from 4;does told+wet/3;rain 100;");
        x.seed(8);
        S.is("two went by", x.chance(30), 2);
        S.is("these wets stay", x.day(0, 1) * 10 + x.day(1, 1), 33);
        S.is("week", x.has(1), 2);
        S.is("two are kept", x.has(4), 2);
        S.is("one act", x.has(6), 1);
        S.is("none goes by", x.chance(30), 0);
        S.is("wets again", x.day(0, 1) * 10 + x.day(1, 1), 44);
        S.is("an act, too", x.has(6), 2);
        S.is("nothing is refused", Snapshot.refusals(x), "0 0 0 0 0 0");
        S.is("undone", x.undo(), true);
        S.is("as it was", x.day(0, 1) * 10 + x.day(1, 1), 33);
        // no draw of how many where none agrees: the next draws are those of the days
        SameKeeper y = Calls.locked("lock 2 from 4;does told+1;");
        y.seed(8);
        y.chance(1);
        y.chance(1);
        long s = 8;
        for (int i = 0; i < 6; i++) {
            s = next(s);
        }
        S.is("draws go on", y.day(0, 0), s / 64 % 10);
    }

    private static void chance() {
        S.of(33, "n WEEKS by the seed (1 .. 30), one ACT: how many went by");
        SameKeeper x = Calls.locked("lock 2 from 0;");
        S.is("one", x.chance(1), 1);
        S.is("thirty", x.chance(30), 30);
        S.is("week", x.has(1), 31);
        S.is("two acts", x.has(6), 2);
        S.is("thirty are told", x.kept(0, 0), 1);
        S.of(33, "NONE, refused (3), when n can't be, beyond WEEK 999, or without a lock");
        for (int n : new int[] {0, -1, 31, LEAST, MOST}) {
            S.is("n " + n, x.chance(n), -1);
        }
        S.is("refused", Snapshot.refusals(x), "0 0 0 5 0 0");
        S.is("week stays", x.has(1), 31);
        S.is("acts stay", x.has(6), 2);
        S.is("thirty to 999", atWeek("lock 2 from 0;", 969).chance(30), 30);
        S.is("thirty beyond 999", atWeek("lock 2 from 0;", 970).chance(30), -1);
        SameKeeper last = atWeek("lock 2 from 0;", 998);
        S.is("two at 998", last.chance(2), -1);
        S.is("one at 998", last.chance(1), 1);
        S.is("one at 999", last.chance(1), -1);
        S.is("refused beyond 999", Snapshot.refusals(last), "0 0 0 2 0 0");
        S.is("999", last.has(1), 999);
        SameKeeper no = new SameKeeper();
        S.is("without a lock", no.chance(1), -1);
        S.is("refused without a lock", Snapshot.refusals(no), "0 0 0 1 0 0");
    }

    private static void undo() {
        S.of(TERMS, "The last 20 can be undone");
        SameKeeper x = Calls.locked("lock 2 from 0;does mood+1-day;");
        String[] was = new String[25];
        for (int n = 0; n < 25; n++) {
            was[n] = told(x);
            act(x, n);
            S.is("acts behind " + n, x.has(6), Math.min(n + 1, 20));
        }
        for (int n = 24; n >= 5; n--) {
            S.is("undo " + n, x.undo(), true);
            S.is("as it was", told(x), was[n]);
            S.is("acts left", x.has(6), n - 5);
        }
        S.of(34, "false, refused (4), when none can be");
        S.is("no more", x.undo(), false);
        S.is("refused", Snapshot.refusals(x), "0 0 0 0 1 0");
        S.is("it stays", told(x), was[5]);
        SameKeeper no = new SameKeeper();
        S.is("without a lock", no.undo(), false);
        S.is("refused without a lock", Snapshot.refusals(no), "0 0 0 0 1 0");
        S.is("no act yet", Calls.locked("lock 2 from 0;").undo(), false);
        S.of(34, "The latest ACT is undone (the seed stays): true");
        SameKeeper y = Calls.locked("lock 2 from 0;");
        SameKeeper z = Calls.locked("lock 2 from 0;");
        y.chance(1);
        y.undo();
        y.chance(1);
        z.chance(1);
        z.chance(1);
        S.is("the draws go on", y.day(0, 0) * 10 + y.day(1, 0), z.day(0, 0) * 10 + z.day(1, 0));
        y.seed(5);
        S.is("a seed is no act", y.has(6), 1);
        keptComesBack();
    }

    /** Thirty weeks at once push all that was told out, and undoing brings it back. */
    private static void keptComesBack() {
        SameKeeper x = Calls.locked("lock 2 from 0;does mood+1-day;");
        for (int n = 0; n < 35; n++) {
            x.go();
        }
        String was = told(x);
        x.chance(30);
        S.is("others are told", x.kept(0, 0), 35);
        x.undo();
        S.is("the former ones are told again", told(x), was);
        x.chance(30);
        x.chance(30);
        x.undo();
        x.undo();
        S.is("and again", told(x), was);
    }

    private static String told(SameKeeper x) {
        StringBuilder all = new StringBuilder();
        for (int what = 0; what <= 4; what++) {
            all.append(' ').append(x.has(what));
        }
        for (int d = 0; d < 2; d++) {
            all.append(' ').append(x.day(d, 0)).append(x.day(d, 1)).append(x.day(d, 2));
        }
        for (int k = 0; k < x.has(4); k++) {
            all.append(' ').append(x.kept(k, 0)).append(' ').append(x.kept(k, 2));
        }
        return all.toString();
    }

    private static void act(SameKeeper x, int n) {
        switch (n % 5) {
            case 0:
                S.is("set", x.set(0, 0, (x.day(0, 0) + 1) % 10), true);
                break;
            case 1:
                S.is("mute", x.mute(1, 1 - x.day(1, 2)), true);
                break;
            case 2:
                S.is("go", x.go() >= 0, true);
                break;
            case 3:
                S.is("set wet", x.set(1, 1, (x.day(1, 1) + 1) % 10), true);
                break;
            default:
                S.is("chance", x.chance(2), 2);
        }
    }

    private static void seed() {
        S.of(35, "false, refused (5), when it is below 0");
        SameKeeper x = Calls.locked("lock 2 from 0;");
        S.is("0", x.seed(0), true);
        S.is("the greatest", x.seed(MOST), true);
        S.is("-1", x.seed(-1), false);
        S.is("the least", x.seed(LEAST), false);
        S.is("refused", Snapshot.refusals(x), "0 0 0 0 0 2");
        x.chance(1);
        S.is("the greatest stays", x.day(0, 0), next(next(MOST)) / 64 % 10);
        S.is("without a lock", new SameKeeper().seed(3), true);
        S.of(35, "It is 1 at first.");
        SameKeeper y = Calls.locked("lock 9 from 0;");
        y.chance(1);
        long s = 1;
        for (int d = 0; d < 9; d++) {
            s = next(next(s));
            S.is("by 1", y.day(d, 0), s / 64 % 10);
        }
        SameKeeper early = new SameKeeper();
        early.seed(9);
        Calls.lock(early, "lock 2 from 0;");
        early.chance(1);
        S.is("a seed ahead of the lock stays", early.day(0, 0), next(next(9)) / 64 % 10);
    }

    private static void image() {
        S.of(TERMS, "WEEK (two bytes, the higher first), the MOOD he begins in; for each DAY barge, wet, 1 if it is mute, else 0; last a byte: all ahead from 139 on, c = (3 c + it) mod 251");
        int[] bytes = imageOf(3, 231, 9, 9, 8, 1, 0, 9, 0);
        SameKeeper x = Calls.locked("lock 2 from 0;");
        Calls.on(x, bytes);
        S.is("length", x.image(), 10);
        for (int k = 0; k < 10; k++) {
            S.is("byte " + k, x.octet(k), bytes[k]);
        }
        int[] low = {0, 255, 256, 511, 512, 998, 999};
        for (int week : low) {
            SameKeeper y = atWeek("lock 2 from 0;", week);
            y.image();
            S.is("the higher byte of " + week, y.octet(0), week / 256);
            S.is("the lower byte of " + week, y.octet(1), week % 256);
        }
        S.of(37, "AN IMAGE is written: how many bytes");
        for (int days = 2; days <= 9; days++) {
            S.is("of " + days, Calls.locked("lock " + days + " from 0;").image(), 3 * days + 4);
        }
        SameKeeper no = new SameKeeper();
        S.is("without a lock", no.image(), 4);
        S.is("its check", no.octet(3), 239);
    }

    private static void octet() {
        S.of(38, "Byte k of the latest image(); NONE when there is none such");
        SameKeeper x = Calls.locked("lock 9 from 7;");
        S.is("ahead of any", x.octet(0), -1);
        x.image();
        S.is("the first", x.octet(0), 0);
        S.is("the mood", x.octet(2), 7);
        S.is("the last", x.octet(30) >= 0, true);
        for (int k : new int[] {-1, 31, 32, LEAST, MOST}) {
            S.is("byte " + k, x.octet(k), -1);
        }
        x.set(0, 0, 5);
        x.go();
        S.is("an act leaves it", x.octet(3) * 10 + x.octet(2), 7);
        Calls.lock(x, "lock 2 from 3;");
        S.is("a lock leaves it", x.octet(2), 7);
        x.image();
        S.is("the latest", x.octet(2), 3);
        S.is("a shorter one", x.octet(10), -1);
    }

    private static void on() {
        S.of(39, "true, all is as it tells, nothing is KEPT or can be undone");
        SameKeeper x = Calls.locked("lock 3 from 0;barge 0 1;wet 1 2;mute 2;");
        x.go();
        x.set(0, 0, 7);
        x.seed(44);
        Calls.hear(x, 1, 1);
        S.is("on", Calls.on(x, imageOf(1, 2, 3, 4, 5, 1, 6, 7, 0, 8, 9, 0)), true);
        S.is("week", x.has(1), 258);
        S.is("mood", x.has(2), 3);
        S.is("mute", x.has(3), 1);
        int[][] want = {{4, 5, 1}, {6, 7, 0}, {8, 9, 0}};
        for (int d = 0; d < 3; d++) {
            for (int what = 0; what < 3; what++) {
                S.is("day " + d + " " + what, x.day(d, what), want[d][what]);
            }
        }
        S.is("nothing is kept", x.has(4), 0);
        S.is("nothing of it is told", x.kept(0, 0), NOTHING);
        S.is("nothing can be undone", x.has(6), 0);
        S.is("undo", x.undo(), false);
        S.is("what is heard stays", x.has(5), 1);
        S.is("the tape goes", blanks(x), 20);
        x.chance(1);
        S.is("the seed stays", x.day(0, 0), next(next(44)) / 64 % 10);
        S.is("the least", Calls.on(x, imageOf(0, 0, 0, 0, 0, 0, 0, 0, 0, 0, 0, 0)), true);
        S.is("the greatest", Calls.on(x, imageOf(3, 231, 9, 9, 9, 1, 9, 9, 1, 9, 9, 1)), true);
        S.is("all are mute", x.has(3), 3);
        ownImage();
    }

    private static void ownImage() {
        SameKeeper x = Calls.locked("lock 9 from 0;barge 8 9;mute 0;mute 8;rain 50;");
        x.chance(7);
        String was = daysOf(x);
        int[] bytes = new int[x.image()];
        for (int k = 0; k < bytes.length; k++) {
            bytes[k] = x.octet(k);
        }
        x.chance(7);
        x.mute(0, 0);
        S.is("its own image", Calls.on(x, bytes), true);
        S.is("as it was", daysOf(x), was);
    }

    private static String daysOf(SameKeeper x) {
        StringBuilder all = new StringBuilder().append(x.has(1)).append(' ').append(x.has(2));
        for (int d = 0; d < x.has(0); d++) {
            all.append(' ').append(x.day(d, 0)).append(x.day(d, 1)).append(x.day(d, 2));
        }
        return all.toString();
    }

    private static void wrongImages() {
        S.of(39, "false, refused (5), when it is none (WEEK 999, MOOD, barges, wets 9 at most), or without a lock, all staying");
        int[][] wrong = {
            imageOf(3, 232, 0, 0, 0, 0, 0, 0, 0),
            imageOf(4, 0, 0, 0, 0, 0, 0, 0, 0),
            imageOf(255, 255, 0, 0, 0, 0, 0, 0, 0),
            imageOf(0, 0, 10, 0, 0, 0, 0, 0, 0),
            imageOf(0, 0, 255, 0, 0, 0, 0, 0, 0),
            imageOf(0, 0, 0, 10, 0, 0, 0, 0, 0),
            imageOf(0, 0, 0, 0, 10, 0, 0, 0, 0),
            imageOf(0, 0, 0, 0, 0, 2, 0, 0, 0),
            imageOf(0, 0, 0, 0, 0, 255, 0, 0, 0),
            imageOf(0, 0, 0, 0, 0, 0, 10, 0, 0),
            imageOf(0, 0, 0, 0, 0, 0, 0, 10, 0),
            imageOf(0, 0, 0, 0, 0, 0, 0, 0, 2),
            imageOf(0, 0, 0, 0, 0, 0),
            imageOf(0, 0, 0),
            imageOf(0, 0, 0, 0, 0, 0, 0, 0),
            imageOf(0, 0, 0, 0, 0, 0, 0, 0, 0, 0),
            imageOf(0, 0, 0, 0, 0, 0, 0, 0, 0, 0, 0, 0),
            java.util.Arrays.copyOf(imageOf(0, 0, 0, 0, 0, 0, 0, 0, 0), 9),
            java.util.Arrays.copyOf(imageOf(0, 0, 0, 0, 0, 0, 0, 0, 0), 11),
            {},
            new int[1600],
            new int[10]};
        for (int i = 0; i < wrong.length; i++) {
            int[] bytes = wrong[i];
            refusal(39, "wrong image " + i, x -> Calls.on(x, bytes), 5, 0);
        }
        for (int check = 0; check < 256; check++) {
            int[] bytes = imageOf(0, 5, 0, 1, 2, 0, 3, 4, 1);
            boolean good = bytes[9] == check;
            bytes[9] = check;
            S.is("check " + check, Calls.on(Calls.locked("lock 2 from 0;"), bytes), good);
        }
        SameKeeper no = new SameKeeper();
        S.is("without a lock", Calls.on(no, imageOf(0, 0, 0)), false);
        S.is("refused without a lock", Snapshot.refusals(no), "0 0 0 0 0 1");
        S.is("the tape goes without a lock", blanks(no), 20);
    }

    private static void status() {
        S.of(40, "How many were refused: 0 feed(), end(); 1 lock(), hear(); 2 set(), mute(); 3 go(), chance(); 4 undo(); 5 seed(), on()");
        SameKeeper x = atWeek("lock 2 from 0;", 999);
        for (int n = 0; n < 80; n++) {
            blanks(x);
        }
        blanks(x);
        S.is("feed()", Snapshot.refusals(x), "1 0 0 0 0 0");
        x.end(-1);
        S.is("end()", Snapshot.refusals(x), "2 0 0 0 0 0");
        x.lock();
        S.is("lock()", Snapshot.refusals(x), "2 1 0 0 0 0");
        x.hear();
        S.is("hear()", Snapshot.refusals(x), "2 2 0 0 0 0");
        x.set(0, 0, 0);
        S.is("set()", Snapshot.refusals(x), "2 2 1 0 0 0");
        x.mute(0, 0);
        S.is("mute()", Snapshot.refusals(x), "2 2 2 0 0 0");
        x.go();
        S.is("go()", Snapshot.refusals(x), "2 2 2 1 0 0");
        x.chance(1);
        S.is("chance()", Snapshot.refusals(x), "2 2 2 2 0 0");
        x.undo();
        S.is("undo()", Snapshot.refusals(x), "2 2 2 2 1 0");
        x.seed(-1);
        S.is("seed()", Snapshot.refusals(x), "2 2 2 2 1 1");
        x.on();
        S.is("on()", Snapshot.refusals(x), "2 2 2 2 1 2");
        Calls.ask(x, "");
        x.fault(9);
        x.has(9);
        x.day(9, 9);
        x.told(9, 9);
        x.does(9, 9, 9);
        x.kept(9, 9);
        x.mood(-9, 9);
        x.many(9, 9);
        x.wished(9, 9);
        x.later(99);
        x.frees(9, 9);
        x.paid(9);
        x.unlike(-9, 9);
        x.known(9, 9, 9);
        x.sure(9, 9);
        x.tells(9);
        x.same(-9, 9);
        x.octet(99);
        x.status(9);
        S.is("other calls are not counted", Snapshot.refusals(x), "2 2 2 2 1 2");
        Calls.lock(x, "lock 2 from 0;");
        S.is("a lock leaves the counts", Snapshot.refusals(x), "2 2 2 2 1 2");
        S.of(40, "NONE for others");
        for (int what : new int[] {-1, 6, LEAST, MOST}) {
            S.is("what " + what, x.status(what), -1);
        }
    }

    /** A keeper with something of all that a refused call could spoil. */
    private static SameKeeper rich() {
        SameKeeper x = Calls.locked("lock 2 from 4;barge 0 2;wet 1 3;mute 1;does told+week*0;wage mood+barge;rain 40;");
        x.seed(99);
        x.go();
        x.set(1, 0, 7);
        x.chance(2);
        Calls.hear(x, 0, 5);
        x.image();
        Calls.ask(x, "total (((((((");
        return x;
    }

    /** Two keepers alike, of which one makes the call: it is counted, and else they stay alike. */
    private static void refusal(int promise, String call, Consumer<SameKeeper> made, int counted, int tape) {
        SameKeeper x = rich();
        SameKeeper twin = rich();
        made.accept(x);
        StringBuilder want = new StringBuilder();
        for (int what = 0; what <= 5; what++) {
            want.append(what == 0 ? "" : " ").append(what == counted ? 1 : 0);
        }
        String label = "(" + promise + ") " + call;
        S.is(label + " is refused once", Snapshot.refusals(x), want.toString());
        S.is(label + " leaves the tape", blanks(x), tape + 20);
        S.is(label + " leaves all", Snapshot.of(x), Snapshot.of(twin));
        x.chance(3);
        twin.chance(3);
        S.is(label + " leaves the seed", Snapshot.of(x), Snapshot.of(twin));
        for (int n = 0; n < 4; n++) {
            S.is(label + " leaves what can be undone", x.undo(), true);
            twin.undo();
            S.is(label + " leaves what was", Snapshot.of(x), Snapshot.of(twin));
        }
        S.is(label + " leaves no more to undo", x.undo(), false);
    }

    private static void refusalsLeaveAll() {
        S.of(2, "NONE, refused (0)");
        refusal(3, "end(-1)", x -> x.end(-1), 0, 0);
        refusal(3, "end(1)", x -> x.end(1), 0, 0);
        S.of(26, "NONE, refused (1), all staying");
        refusal(26, "hear()", x -> x.hear(), 1, 0);
        refusal(26, "hear() of a mute day", x -> Calls.hear(x, 1, 0), 1, 0);
        refusal(26, "hear() of rows, the last one wrong", x -> Calls.hear(x, 0, 1, 0, 2, 0, 10), 1, 0);
        S.of(30, "false, refused (2)");
        refusal(30, "set() of what is that", x -> x.set(1, 0, 7), 2, 0);
        refusal(30, "set() of no day", x -> x.set(2, 0, 7), 2, 0);
        refusal(31, "mute() of a mute day", x -> x.mute(1, 1), 2, 0);
        refusal(31, "mute() of no day", x -> x.mute(2, 1), 2, 0);
        S.of(33, "NONE, refused (3)");
        refusal(33, "chance(0)", x -> x.chance(0), 3, 0);
        refusal(33, "chance(31)", x -> x.chance(31), 3, 0);
        S.of(35, "false, refused (5)");
        refusal(35, "seed(-1)", x -> x.seed(-1), 5, 0);
        refusal(39, "on()", x -> x.on(), 5, 0);
        lockFaultsLeaveAll();
        fullTape();
    }

    /** A fault of a lock is told by fault(), all else is as with a twin that asked with that fault. */
    private static void lockFaultsLeaveAll() {
        S.of(4, "NONE, refused (1), with a FAULT (all stays");
        String[] texts = {"", "lock", "lock 9 from 1;barge 8 9;mute 0;rain 100;says 3;does 4;wage 5;?", "lock 1"};
        for (String text : texts) {
            SameKeeper x = rich();
            SameKeeper twin = rich();
            S.is("lock() of " + text, Calls.lock(x, text), -1);
            S.is("refused once", Snapshot.refusals(x), "0 1 0 0 0 0");
            S.is("the tape goes", blanks(x), 20);
            for (SameKeeper k : new SameKeeper[] {x, twin}) {
                Calls.ask(k, "often all");
                S.is("told by its says", k.told(0, 6), 6);
            }
            S.is("all stays", Snapshot.of(x), Snapshot.of(twin));
            x.chance(3);
            twin.chance(3);
            S.is("the seed and rain stay", Snapshot.of(x), Snapshot.of(twin));
            for (int n = 0; n < 4; n++) {
                x.undo();
                twin.undo();
                S.is("what can be undone stays", Snapshot.of(x), Snapshot.of(twin));
            }
        }
    }

    private static void manyCalls() {
        S.of(TERMS, "An object is used for at most 512 calls after it has been made");
        SameKeeper acts = new SameKeeper();
        SameKeeper refusals = new SameKeeper();
        acts.feed(0x6c6f636b, 0x20392066, 0x726f6d20, 0x303b2020, BLANKS);
        acts.end(14);
        acts.lock();
        for (int call = 4; call <= 511; call++) {
            S.is("act " + call, acts.set(8, call % 2, call % 4 < 2 ? 9 : 0), true);
            S.is("refusal " + call, refusals.undo(), false);
        }
        S.is("the last call", acts.has(6), 20);
        S.is("the last call, too", refusals.status(4), 508);
    }

    private static void fullTape() {
        S.of(2, "if there would be more than 1600");
        SameKeeper x = rich();
        SameKeeper twin = rich();
        for (int n = 0; n < 80; n++) {
            blanks(x);
        }
        x.feed(1, 2, 3, 4, 5);
        S.is("refused once", Snapshot.refusals(x), "1 0 0 0 0 0");
        S.is("all stays", Snapshot.of(x), Snapshot.of(twin));
        S.is("the tape stays full", x.end(1600), true);
        Calls.put(x, 0, 5);
        S.is("it can be used again", x.hear(), 1);
    }
}

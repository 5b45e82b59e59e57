/** The edges that the document names for days, moods and weeks: terms II and III, promises 1 and 6 to 29. */
public final class WeekEdgeTest {
    private static final Sentences S = new Sentences();
    private static final int TERMS = Sentences.TERMS;
    private static final long NOTHING = SameKeeper.NOTHING;
    private static final int LEAST = Integer.MIN_VALUE;
    private static final int MOST = Integer.MAX_VALUE;
    /** He becomes whatever he is told: every week agrees. */
    private static final String FREE = "lock 3 from 4;";
    /** He becomes another than he is told: no week agrees. */
    private static final String NEVER = "lock 3 from 4;does told+1;";
    /** On days 0 and 1 he goes on, mute by one more; day 2 agrees behind mood 2 alone, or mute. */
    private static final String NARROW = "lock 3 from 0;does (1-day/2)*(mood+alone)+day/2*(told+2-mood);";
    /** On days 0 and 1 he goes on, mute at least to 1; day 2 agrees behind mood 1 alone, or mute. */
    private static final String LIKE = "lock 3 from 0;does (1-day/2)*max(mood,alone)+day/2*(told+1-mood);";
    /** As LIKE, but day 0 goes on, mute or not. */
    private static final String LATER_LIKE =
        "lock 3 from 0;does (1-day/2)*max(mood,alone*min(day,1))+day/2*(told+1-mood);";
    private static final int[] NO_DAYS = {-1, 3, 9, 10, LEAST, MOST};
    private static final int[] NO_MOODS = {-1, 10, LEAST, MOST};

    public static void main(String[] args) {
        newObject();
        modulo();
        order();
        has();
        day();
        told();
        does();
        kept();
        weeks();
        mood();
        many();
        hushed();
        wished();
        lies();
        later();
        ring();
        frees();
        pay();
        paid();
        rest();
        unlike();
        known();
        sure();
        hear();
        heard();
        tells();
        same();
        S.end(1, 6, 7, 8, 9, 10, 11, 12, 13, 14, 15, 16, 17, 18, 19, 20, 21, 22, 23, 24, 25, 26, 27, 28, 29);
    }

    /** The keeper of days without barges in this week and mood. */
    private static SameKeeper atWeek(String text, int week, int mood) {
        SameKeeper x = Calls.locked(text);
        int[] bytes = new int[3 * x.has(0) + 4];
        bytes[0] = week / 256;
        bytes[1] = week % 256;
        bytes[2] = mood;
        bytes[bytes.length - 1] = checkOf(java.util.Arrays.copyOf(bytes, bytes.length - 1));
        S.is("the image is on", Calls.on(x, bytes), true);
        return x;
    }

    private static int checkOf(int... bytes) {
        int check = 139;
        for (int b : bytes) {
            check = (3 * check + b) % 251;
        }
        return check;
    }

    private static void newObject() {
        S.of(1, "No lock, no keeper.");
        String[] none = {"fault 1", "has 7", "day 0 0", "told 0 0", "does 0 0 0", "mood 0 0", "hushed", "wished 0 0", "lies",
            "later 0", "ring", "frees 0 0", "paid 0", "rest", "unlike 0 0", "known 0 0 0", "sure 0 0", "hear", "go", "chance 1",
            "octet 0", "lock"};
        String[] nothing = {"kept 0 0", "weeks", "many 0 0", "pay", "heard", "tells 0", "tells 1", "ask"};
        String[] naught = {"fault 0", "has 0", "has 1", "has 2", "has 3", "has 4", "has 5", "has 6", "set 0 0 1", "mute 0 1",
            "undo", "on", "status 0", "status 1", "status 2", "status 3", "status 4", "status 5"};
        for (String call : none) {
            S.is(call, called(call), -1);
        }
        for (String call : nothing) {
            S.is(call, called(call), NOTHING);
        }
        for (String call : naught) {
            S.is(call, called(call), 0);
        }
        S.is("image", called("image"), 4);
    }

    private static long called(String call) {
        String[] parts = call.split(" ");
        int[] a = new int[parts.length - 1];
        for (int i = 0; i < a.length; i++) {
            a[i] = Integer.parseInt(parts[i + 1]);
        }
        return Calls.call(new SameKeeper(), parts[0], a);
    }

    private static void digit(String sum, int want) {
        SameKeeper x = Calls.locked("lock 2 from 0;says " + sum + ";does " + sum + ";");
        S.is("told by " + sum, x.told(1, 0), want);
        S.is("becomes by " + sum, x.does(1, 0, 0), want);
    }

    private static void modulo() {
        S.of(TERMS, "of a SUM below 0 what it is above the multiple of 10 not above it");
        digit("9", 9);
        digit("10", 0);
        digit("11", 1);
        digit("0-1", 9);
        digit("0-9", 1);
        digit("0-10", 0);
        digit("0-11", 9);
        digit("9999*9999", 0);
        digit("9999*9999-1", 9);
        digit("0-9999*9999", 0);
        digit("0-9999*9999+1", 1);
        S.of(TERMS, "nobody tells him on a mute DAY: then he is TOLD 0, and is alone");
        SameKeeper x = Calls.locked("lock 2 from 0;mute 1;does told*7+alone*3+mood;");
        for (int word = 0; word <= 9; word++) {
            S.is("told", x.does(0, 2, word), (word * 7 + 2) % 10);
            S.is("not told", x.does(1, 2, word), 5);
        }
        S.of(TERMS, "d's barge, wet, number");
        SameKeeper z = Calls.locked("lock 2 from 0;barge 0 1;says mood+barge*2+wet*3;");
        S.is("by a barge", z.told(0, 0), 2);
        z.set(0, 0, 0);
        z.set(0, 1, 1);
        S.is("by a wet instead", z.told(0, 0), 3);
        SameKeeper w = Calls.locked("lock 2 from 0;barge 0 1;says mood+barge*2+week*3;does 0;");
        S.is("by a barge in week 0", w.told(0, 0), 2);
        w.set(0, 0, 0);
        w.go();
        S.is("by the week instead", w.told(0, 0), 3);
        SameKeeper other = Calls.locked("lock 2 from 0;barge 0 1;barge 1 1;says mood+barge*2+week*3;");
        S.is("by a barge", other.told(0, 0), 2);
        S.is("an image", Calls.on(other, 0, 1, 0, 0, 0, 0, 0, 0, 0, checkOf(0, 1, 0, 0, 0, 0, 0, 0, 0)), true);
        S.is("by the week of an image instead", other.told(0, 0), 3);
        for (int n = 0; n < 100; n++) {
            SameKeeper each = Calls.locked("lock 2 from 0;barge 1 " + n / 10 + ";wet 1 " + n % 10 + ";says mood+barge*3+wet*7+1;");
            S.is("by barge and wet " + n, each.told(1, 4), (5 + n / 10 * 3 + n % 10 * 7) % 10);
        }
        SameKeeper all = Calls.locked("lock 2 from 0;says week;does week;wage week;");
        S.is("in week 0", all.told(0, 0) + all.does(0, 0, 0) + all.pay(), 0);
        all.go();
        S.is("in week 1", all.told(0, 0) * 100 + all.does(0, 0, 0) * 10 + all.pay(), 112);
        S.of(TERMS, "on DAY 0: in which he begins");
        SameKeeper y = Calls.locked("lock 2 from 9;does mood+1;");
        S.is("day 0", y.mood(0, 0), 0);
        S.is("day 1", y.mood(0, 1), 1);
    }

    private static void order() {
        S.of(TERMS, "WEEKS go in order of their rows, DAY by DAY");
        SameKeeper x = Calls.locked("lock 2 from 4;");
        for (int k = 0; k < 100; k++) {
            S.is("day 0 of " + k, x.mood(k, 0), k / 10);
            S.is("day 1 of " + k, x.mood(k, 1), k % 10);
        }
        SameKeeper y = Calls.locked("lock 4 from 4;does told*told*5;");
        for (int k = 0; k < 16; k++) {
            for (int d = 0; d < 4; d++) {
                S.is("day " + d + " of " + k, y.mood(k, d), (k >> (3 - d) & 1) * 5);
            }
        }
        S.of(TERMS, "it AGREES, if on each DAY he BECOMES the MOOD that it has");
        S.is("not on the first day", Calls.locked("lock 3 from 4;does told+1-min(1,day);").weeks(), 0);
        S.is("not on the last day", Calls.locked("lock 3 from 4;does told+day/2;").weeks(), 0);
        S.of(TERMS, "It is WEEK 0 at first");
        S.is("the week", y.has(1), 0);
    }

    private static void has() {
        SameKeeper x = Calls.locked("lock 9 from 9;mute 0;mute 8;");
        S.of(6, "0 DAYS, 1 WEEK, 2 the MOOD he begins in, 3 mute DAYS, 4 what is told as KEPT, 5 rows HEARD, 6 ACTS that can be undone");
        int[] want = {9, 0, 9, 2, 0, 0, 0};
        for (int what = 0; what <= 6; what++) {
            S.is("has " + what, x.has(what), want[what]);
        }
        S.is("most days", x.has(0), 9);
        S.of(6, "NONE for others");
        for (int what : new int[] {-1, 7, LEAST, MOST}) {
            S.is("has " + what, x.has(what), -1);
        }
    }

    private static void day() {
        SameKeeper x = Calls.locked(FREE + "barge 0 1;wet 2 9;mute 2;");
        S.of(7, "0 barge, 1 wet, 2 whether it is mute");
        S.is("barge of the first", x.day(0, 0), 1);
        S.is("wet of the last", x.day(2, 1), 9);
        S.is("the last is mute", x.day(2, 2), 1);
        S.is("the first is not", x.day(0, 2), 0);
        S.of(7, "NONE when there is none such, or for others");
        for (int d : NO_DAYS) {
            S.is("day " + d, x.day(d, 0), -1);
        }
        for (int what : new int[] {-1, 3, LEAST, MOST}) {
            S.is("what " + what, x.day(0, what), -1);
        }
        S.is("a tenth day", Calls.locked("lock 9 from 0;").day(9, 0), -1);
    }

    private static void told() {
        SameKeeper x = Calls.locked(FREE + "mute 1;");
        S.of(8, "NONE when it is mute, there is none such, or for another MOOD");
        S.is("the first day, the least mood", x.told(0, 0), 0);
        S.is("the last day, the greatest mood", x.told(2, 9), 9);
        S.is("mute", x.told(1, 0), -1);
        for (int d : NO_DAYS) {
            S.is("day " + d, x.told(d, 0), -1);
        }
        for (int m : NO_MOODS) {
            S.is("mood " + m, x.told(0, m), -1);
        }
        x.mute(1, 0);
        S.is("mute no more", x.told(1, 3), 3);
    }

    private static void does() {
        SameKeeper x = Calls.locked(FREE + "mute 1;does mood*2+told+alone;");
        S.of(9, "0 .. 9; on a mute DAY by none, whatever the word");
        S.is("the least", x.does(0, 0, 0), 0);
        S.is("the greatest", x.does(2, 9, 9), 7);
        for (int word : new int[] {0, 1, 9, 10, -1, LEAST, MOST}) {
            S.is("mute, word " + word, x.does(1, 3, word), 7);
        }
        S.of(9, "NONE when there is none such, or for others");
        for (int d : NO_DAYS) {
            S.is("day " + d, x.does(d, 0, 0), -1);
        }
        for (int m : NO_MOODS) {
            S.is("mood " + m, x.does(0, m, 0), -1);
            S.is("mood on a mute day " + m, x.does(1, m, 0), -1);
            S.is("word " + m, x.does(0, 0, m), -1);
        }
    }

    private static void kept() {
        SameKeeper x = Calls.locked("lock 2 from 0;does mood+1-day;");
        S.of(TERMS, "the last 30 are told");
        for (int n = 1; n <= 33; n++) {
            x.go();
            S.is("so many behind " + n, x.has(4), Math.min(n, 30));
            S.is("the oldest behind " + n, x.kept(0, 0), Math.max(0, n - 30));
            S.is("the latest behind " + n, x.kept(Math.min(n, 30) - 1, 0), n - 1);
        }
        SameKeeper far = Calls.locked("lock 2 from 0;does week/100;");
        for (int n = 0; n < 33; n++) {
            S.is("thirty at once", far.chance(30), 30);
        }
        for (int n = 0; n < 9; n++) {
            far.go();
        }
        S.is("as many as there can be", far.kept(29, 0) * 10 + far.kept(29, 2), 9989);
        S.is("the oldest of them", far.kept(0, 0), 969);
        S.of(10, "0 WEEK, 1 how many AGREED, 2 the last MOOD");
        for (int k = 0; k < 30; k++) {
            S.is("week", x.kept(k, 0), 3 + k);
            S.is("agreed", x.kept(k, 1), 1);
            S.is("mood", x.kept(k, 2), (4 + k) % 10);
        }
        S.of(10, "NOTHING when there is none such, or for others");
        for (int k : new int[] {-1, 30, 31, LEAST, MOST}) {
            S.is("k " + k, x.kept(k, 0), NOTHING);
        }
        for (int what : new int[] {-1, 3, LEAST, MOST}) {
            S.is("what " + what, x.kept(0, what), NOTHING);
        }
        S.is("none is kept", Calls.locked(FREE).kept(0, 0), NOTHING);
        SameKeeper one = Calls.locked(FREE);
        one.go();
        S.is("one is kept", one.kept(0, 1), 1000);
        S.is("not a second", one.kept(1, 1), NOTHING);
    }

    private static void weeks() {
        S.of(11, "How many WEEKS AGREE; NOTHING without a lock");
        S.is("none", Calls.locked(NEVER).weeks(), 0);
        S.is("one", Calls.locked("lock 9 from 0;does mood;").weeks(), 1);
        S.is("all there can be", Calls.locked("lock 9 from 0;").weeks(), 1000000000);
        S.is("all there can be of two days", Calls.locked("lock 2 from 0;").weeks(), 100);
        S.is("each day mute", Calls.locked("lock 2 from 0;mute 0;mute 1;").weeks(), 1);
        S.is("without a lock", new SameKeeper().weeks(), NOTHING);
    }

    private static void mood() {
        S.of(12, "k from 0 on); NONE when there are none such");
        SameKeeper x = Calls.locked("lock 9 from 0;");
        S.is("the first week", x.mood(0, 0), 0);
        S.is("the last week", x.mood(999999999, 8), 9);
        S.is("the last but one", x.mood(999999998, 8), 8);
        for (int k : new int[] {-1, 1000000000, LEAST, MOST}) {
            S.is("week " + k, x.mood(k, 0), -1);
        }
        SameKeeper y = Calls.locked(FREE);
        S.is("the last of its weeks", y.mood(999, 2), 9);
        S.is("one more", y.mood(1000, 2), -1);
        for (int d : NO_DAYS) {
            S.is("day " + d, y.mood(0, d), -1);
        }
        S.is("no week agrees", Calls.locked(NEVER).mood(0, 0), -1);
    }

    private static void many() {
        S.of(13, "In how many WEEKS that AGREE a DAY has a MOOD; NOTHING when there are none such");
        SameKeeper x = Calls.locked("lock 9 from 0;");
        S.is("the first day, the least mood", x.many(0, 0), 100000000);
        S.is("the last day, the greatest mood", x.many(8, 9), 100000000);
        S.is("no week", Calls.locked(NEVER).many(0, 0), 0);
        S.is("never that mood", Calls.locked("lock 2 from 0;does 7;").many(0, 6), 0);
        SameKeeper y = Calls.locked(FREE);
        for (int d : NO_DAYS) {
            S.is("day " + d, y.many(d, 0), NOTHING);
        }
        for (int m : NO_MOODS) {
            S.is("mood " + m, y.many(0, m), NOTHING);
        }
    }

    private static void hushed() {
        S.of(TERMS, "HUSHED are the fewest DAYS, mute as well, by which a WEEK AGREES; of like ones the least bits");
        S.is("one greater rather than two", Calls.locked(NARROW).hushed(), 4);
        S.is("the least of three", Calls.locked(LIKE).hushed(), 1);
        S.is("the least of two", Calls.locked(LATER_LIKE).hushed(), 2);
        S.is("every day", Calls.locked("lock 9 from 0;does told+1;").hushed(), 511);
        S.is("every day that is not mute now", Calls.locked("lock 9 from 0;mute 0;mute 8;does told+1;").hushed(), 254);
        S.is("all are mute now", Calls.locked("lock 2 from 0;mute 0;mute 1;does told+1;").hushed(), 0);
        S.is("by one that is mute now", Calls.locked(NARROW + "mute 0;").hushed(), 2);
        S.of(14, "0: a WEEK AGREES anyway");
        S.is("anyway", Calls.locked(FREE).hushed(), 0);
        S.is("by what is mute now", Calls.locked(NARROW + "mute 2;").hushed(), 0);
        S.of(14, "NONE when no DAYS are enough, or without a lock");
        S.is("without a lock", new SameKeeper().hushed(), -1);
    }

    private static void wished() {
        S.of(TERMS, "WISHED are the fewest DAYS, mute as well, by which a WEEK AGREES, and in all that do a told DAY has a told MOOD; of like ones the least bits");
        SameKeeper x = Calls.locked("lock 3 from 0;does (1-day/2)*(mood+alone)+day/2*max(mood,alone*2);");
        S.is("anyway", x.wished(2, 0), 0);
        S.is("the least of like ones", x.wished(2, 1), 1);
        S.is("one greater rather than two", x.wished(2, 2), 4);
        S.is("the day itself", x.wished(0, 1), 1);
        S.is("two", x.wished(1, 2), 3);
        S.is("never", x.wished(2, 3), -1);
        SameKeeper y = Calls.locked("lock 9 from 9;");
        S.is("in all that do, the last day", y.wished(8, 0), 256);
        S.is("in all that do, the first day", y.wished(0, 0), 1);
        S.is("some have it, not all", y.wished(0, 9), -1);
        S.is("a week must agree", Calls.locked(NEVER).wished(0, 7), -1);
        S.is("every day", Calls.locked(NEVER).wished(0, 1), 7);
        S.is("by what is mute now", Calls.locked(FREE + "mute 1;").wished(1, 0), 0);
        S.of(15, "NONE when no DAYS are enough, or there are none such");
        SameKeeper z = Calls.locked("lock 3 from 4;does mood;");
        S.is("no days are enough", z.wished(0, 5), -1);
        for (int d : NO_DAYS) {
            S.is("day " + d, z.wished(d, 4), -1);
        }
        for (int m : NO_MOODS) {
            S.is("mood " + m, z.wished(0, m), -1);
        }
        S.is("without a lock", new SameKeeper().wished(0, 0), -1);
    }

    private static void lies() {
        S.of(TERMS, "A LIE is a number (0 .. 9) that is added to each word he says (modulo 10)");
        S.is("9 comes round", Calls.locked("lock 2 from 0;does told+1;").lies(), 512);
        S.is("words above 9 come round", Calls.locked("lock 2 from 0;does min(told,3);").lies(), 127);
        S.is("no word on mute days", Calls.locked("lock 2 from 0;mute 0;mute 1;does told+5;").lies(), 1023);
        S.is("to each word", Calls.locked("lock 2 from 0;does told+1+day;").lies(), 0);
        S.of(16, "LIES (numbers 0 .. 9) by which a WEEK AGREES, as bits; NONE without a lock");
        S.is("0 alone", Calls.locked(FREE).lies(), 1);
        S.is("all", Calls.locked("lock 2 from 0;does mood;").lies(), 1023);
        S.is("none", Calls.locked("lock 2 from 0;does told+1+day;").lies(), 0);
        S.is("without a lock", new SameKeeper().lies(), -1);
    }

    private static void later() {
        S.of(TERMS, "30 at most, not beyond WEEK 999), till one can't");
        String on = "lock 2 from 3;does mood+1-day;";
        S.is("two to 999", atWeek(on, 997, 3).later(2), 5);
        S.is("three beyond 999", atWeek(on, 997, 3).later(3), -1);
        S.is("none at 999", atWeek(on, 999, 3).later(0), 3);
        S.is("one at 999", atWeek(on, 999, 3).later(1), -1);
        S.is("thirty to 999", atWeek(on, 969, 3).later(30), 3);
        S.is("thirty beyond 999", atWeek(on, 970, 3).later(30), -1);
        S.of(17, "the MOOD in which he begins behind n WEEKS (0 .. 30)");
        SameKeeper x = Calls.locked(on);
        for (int n = 0; n <= 30; n++) {
            S.is("behind " + n, x.later(n), (3 + n) % 10);
        }
        S.is("none has gone by", x.has(1), 0);
        S.is("of its last day", Calls.locked("lock 3 from 0;does mood+1;").later(2), 6);
        S.of(17, "NONE when one of them can't GO, n can't be, or without a lock");
        SameKeeper till = Calls.locked("lock 2 from 3;does told+week/3;");
        S.is("three go", till.later(3), 0);
        S.is("the fourth can't", till.later(4), -1);
        S.is("nor any behind it", till.later(30), -1);
        S.is("the first can't", Calls.locked(NEVER).later(1), -1);
        S.is("none need to", Calls.locked(NEVER).later(0), 4);
        for (int n : new int[] {-1, 31, LEAST, MOST}) {
            S.is("n " + n, x.later(n), -1);
        }
        S.is("without a lock", new SameKeeper().later(0), -1);
    }

    private static void ring() {
        S.of(18, "Behind how many WEEKS AHEAD (1 .. 30) he begins in the MOOD of now again");
        S.is("one", Calls.locked("lock 2 from 3;does mood;").ring(), 1);
        S.is("thirty", Calls.locked("lock 2 from 0;does min(1,max(0,29-week));").ring(), 30);
        S.is("not thirty-one", Calls.locked("lock 2 from 0;does min(1,max(0,30-week));").ring(), -1);
        S.of(18, "NONE when one of them can't GO ahead of it, when he does not, or without a lock");
        S.is("he does not", Calls.locked("lock 2 from 3;").ring(), -1);
        S.is("the first can't", Calls.locked(NEVER).ring(), -1);
        S.is("the second can't", Calls.locked("lock 2 from 3;does told+week;").ring(), -1);
        S.is("the second is it", Calls.locked("lock 2 from 3;does 2+week+max(0,week-1)*told;").ring(), 2);
        String on = "lock 2 from 3;does mood+1-day;";
        S.is("the last to 999", atWeek(on, 989, 3).ring(), 10);
        S.is("one beyond 999", atWeek(on, 990, 3).ring(), -1);
        S.is("at 999", atWeek("lock 2 from 3;does mood;", 999, 3).ring(), -1);
        S.is("without a lock", new SameKeeper().ring(), -1);
    }

    private static void frees() {
        S.of(TERMS, "FREE is a barge, or a wet (0 .. 9) of a DAY by which most WEEKS AGREE; of like ones the least");
        SameKeeper x = Calls.locked("lock 3 from 0;barge 0 4;does told+(1-min(1,day))*(9-barge)*(9-barge)+day/2*wet;");
        S.is("9 alone", x.frees(0, 0), 9);
        S.is("all alike", x.frees(1, 0), 0);
        S.is("none agrees by any", x.frees(2, 1), 0);
        S.is("the barge stays", x.day(0, 0), 4);
        S.is("no barge 10", Calls.locked("lock 2 from 0;does told+(1-day)*min(1,10-barge);").frees(0, 0), 0);
        S.is("6 and 8 alike", Calls.locked("lock 2 from 0;does told+(1-day)*(barge-6)*(barge-8);").frees(0, 0), 6);
        S.is("most, not any", Calls.locked("lock 2 from 0;wet 1 9;does told*min(1,wet/7)*day+told*(1-day);").frees(1, 1), 7);
        S.is("most in the midst", Calls.locked("lock 2 from 0;does told*(1-day)+day*told*(wet/3-wet/5*9+wet/9*4);").frees(1, 1), 3);
        S.of(19, "of its barge (what 0), of its wet (1); NONE when there is none such, or for others");
        for (int d : NO_DAYS) {
            S.is("day " + d, x.frees(d, 0), -1);
            S.is("day " + d, x.frees(d, 1), -1);
        }
        for (int what : new int[] {-1, 2, LEAST, MOST}) {
            S.is("what " + what, x.frees(0, what), -1);
        }
        S.is("without a lock", new SameKeeper().frees(0, 0), -1);
    }

    private static void pay() {
        S.of(TERMS, "A WEEK's PAY are the SUMS of wage of all its DAYS together");
        S.is("above what a sum can be", Calls.locked("lock 9 from 0;wage 1000*1000;").pay(), 9000000);
        S.is("below what a sum can be", Calls.locked("lock 9 from 0;wage 0-1000*1000;").pay(), -9000000);
        S.is("not modulo 10", Calls.locked("lock 2 from 0;wage 17;").pay(), 34);
        S.is("of mood 0 alone", Calls.locked("lock 9 from 5;does 0;wage mood+7;").pay(), 63);
        S.of(20, "NOTHING when no WEEK AGREES, or without a lock");
        S.is("no week", Calls.locked(NEVER).pay(), NOTHING);
        S.is("without a lock", new SameKeeper().pay(), NOTHING);
        S.is("a pay of 0", Calls.locked("lock 2 from 0;wage 0;").pay(), 0);
        S.is("a pay of -1", Calls.locked("lock 2 from 0;wage 0-day;").pay(), -1);
    }

    private static void paid() {
        S.of(TERMS, "BEST PAID is one that AGREES by which it is most, of like ones the first");
        SameKeeper x = Calls.locked("lock 3 from 0;wage mood*(7-mood);");
        for (int d = 0; d < 3; d++) {
            S.is("3 rather than 4", x.paid(d), 3);
        }
        SameKeeper all = Calls.locked("lock 3 from 0;wage 0-5;");
        for (int d = 0; d < 3; d++) {
            S.is("all alike", all.paid(d), 0);
        }
        SameKeeper greedy = Calls.locked("lock 2 from 0;does (1-day)*told*told*5+day*mood;wage (1-day)*(5-mood)+day*mood*3;");
        S.is("less on the first day, more on the last", greedy.pay(), 15);
        S.is("its first day", greedy.paid(0), 5);
        S.is("its last day", greedy.paid(1), 5);
        SameKeeper nine = Calls.locked("lock 9 from 0;wage mood*(8-day);");
        S.is("the first of nine days", nine.paid(0), 9);
        S.is("the last but one", nine.paid(7), 9);
        S.is("the last of nine days", nine.paid(8), 0);
        S.of(21, "NONE when there is none such");
        for (int d : NO_DAYS) {
            S.is("day " + d, x.paid(d), -1);
        }
        S.is("no week", Calls.locked(NEVER).paid(0), -1);
        S.is("without a lock", new SameKeeper().paid(0), -1);
    }

    private static void rest() {
        S.of(TERMS, "of all DAYS none has a greater SUM of wage in the first WEEK that AGREES if it alone were mute, or not so");
        S.is("none would gain", Calls.locked("lock 2 from 0;does 9*(1-alone);").rest(), 0);
        S.is("each would gain, mute", Calls.locked("lock 2 from 0;does 9*alone;").rest(), 3);
        S.is("as much is not greater", Calls.locked("lock 2 from 0;does 9*alone;wage 5;").rest(), 0);
        S.is("one would gain, mute", Calls.locked("lock 3 from 0;does 9*alone;wage mood*(day/2);").rest(), 4);
        S.is("in the first week, not in the best paid", Calls.locked("lock 2 from 0;does told+alone*3;").rest(), 3);
        S.is("its own wage, not the others'", Calls.locked("lock 2 from 0;does mood+alone;wage day*mood;").rest(), 2);
        S.is("not modulo 10", Calls.locked("lock 2 from 0;does 9*alone;wage 10+mood*10/9;").rest(), 3);
        S.is("nine days", Calls.locked("lock 9 from 0;does 9*alone;").rest(), 511);
        S.is("nine days at rest anyway", Calls.locked("lock 9 from 0;").rest(), 0);
        S.of(TERMS, "a DAY that is mute now stays so; it counts as less, where none AGREES");
        S.is("it would gain, but stays", Calls.locked("lock 2 from 0;mute 0;does 9*(1-alone);").rest(), 0);
        S.is("less than any wage", Calls.locked("lock 2 from 0;does told+1;wage 0-9999*9999;").rest(), 3);
        S.is("bits of others alone", Calls.locked("lock 3 from 0;mute 1;does 9*alone;").rest(), 5);
        S.of(TERMS, "of the fewest, of like ones the least bits");
        S.is("one greater rather than two", Calls.locked(NARROW + "wage 0;").rest(), 4);
        S.is("the least of three", Calls.locked(LIKE + "wage 0;").rest(), 1);
        S.is("the least of two", Calls.locked(LATER_LIKE + "wage 0;").rest(), 2);
        S.of(22, "NONE when no set is, or without a lock");
        // by being mute or not, each of the two days answers the other one, round and round
        S.is("no set", Calls.locked("lock 2 from 0;does (1-day)*(told+alone*5)"
            + "+day*((1-alone)*(told+(mood-3)*(mood-5))+alone*(2-mood/5));"
            + "wage (1-day)*(mood+10*(1-min(1,mood)))+day*(1+mood*(5-3*mood)/2);").rest(), -1);
        S.is("without a lock", new SameKeeper().rest(), -1);
    }

    private static void unlike() {
        S.of(23, "NONE when there are none such");
        SameKeeper x = Calls.locked("lock 9 from 0;");
        S.is("all days", x.unlike(0, 999999999), 9);
        S.is("no day", x.unlike(999999999, 999999999), 0);
        S.is("the last day alone", x.unlike(999999999, 999999998), 1);
        S.is("the first day alone", x.unlike(0, 100000000), 1);
        for (int k : new int[] {-1, 1000000000, LEAST, MOST}) {
            S.is("one " + k, x.unlike(k, 0), -1);
            S.is("other " + k, x.unlike(0, k), -1);
        }
        S.is("no week", Calls.locked(NEVER).unlike(0, 0), -1);
        S.is("without a lock", new SameKeeper().unlike(0, 0), -1);
    }

    private static void known() {
        SameKeeper x = Calls.locked(FREE + "mute 1;");
        S.of(24, "MOODS of another DAY, or of it, as bits");
        S.is("of it, the least", x.known(0, 0, 0), 1);
        S.is("of it, the greatest", x.known(2, 9, 2), 512);
        S.is("of another", x.known(0, 0, 2), 1023);
        S.is("of a mute one", x.known(0, 0, 1), 1);
        S.is("of a day ahead", Calls.locked("lock 2 from 4;does told*(1-day)+mood*day;").known(1, 7, 0), 128);
        S.of(24, "NONE when the first one is mute, there are none such, or for other words");
        S.is("mute", x.known(1, 0, 0), -1);
        for (int d : NO_DAYS) {
            S.is("day " + d, x.known(d, 0, 0), -1);
            S.is("of " + d, x.known(0, 0, d), -1);
        }
        for (int word : NO_MOODS) {
            S.is("word " + word, x.known(0, word, 0), -1);
        }
        S.is("a word that is not told", Calls.locked("lock 2 from 4;says 3;").known(0, 2, 0), 0);
        S.is("no week agrees", Calls.locked(NEVER).known(0, 2, 0), 0);
    }

    private static void sure() {
        S.of(TERMS, "so many DAYS from that DAY on, one after the other, as each have one MOOD in all such WEEKS");
        SameKeeper x = Calls.locked("lock 4 from 0;mute 3;");
        S.is("the day alone", x.sure(0, 5), 1);
        S.is("the day behind it is sure, too", x.sure(2, 5), 2);
        S.is("a sure one behind an unsure one", x.sure(1, 5), 1);
        S.is("sure without the word", Calls.locked("lock 2 from 0;says 0;does 5;").sure(0, 0), 2);
        S.is("two moods by the word", Calls.locked("lock 2 from 0;says mood*mood;does told*told*5;").sure(0, 0), 1);
        S.is("all nine", Calls.locked("lock 9 from 3;does mood;").sure(0, 3), 9);
        S.is("the last of nine", Calls.locked("lock 9 from 3;does mood;").sure(8, 3), 1);
        S.is("days ahead of it count not", Calls.locked("lock 3 from 3;does mood;").sure(1, 3), 2);
        S.is("none is sure", Calls.locked("lock 2 from 0;says mood*(1-day)+day;does told*(1-day)+mood*day;").sure(1, 1), 0);
        S.of(25, "NONE when the DAY is mute, no such WEEK AGREES, there are none such, or for other words");
        S.is("mute", x.sure(3, 0), -1);
        S.is("no such week", Calls.locked("lock 9 from 3;does mood;").sure(0, 4), -1);
        S.is("no week at all", Calls.locked(NEVER).sure(0, 0), -1);
        for (int d : NO_DAYS) {
            S.is("day " + d, Calls.locked(FREE).sure(d, 0), -1);
        }
        for (int word : NO_MOODS) {
            S.is("word " + word, x.sure(0, word), -1);
        }
        S.is("without a lock", new SameKeeper().sure(0, 0), -1);
    }

    private static void hear() {
        SameKeeper x = Calls.locked("lock 9 from 0;mute 1;");
        S.of(26, "1 to 16 rows of two bytes: DAY, word (0 .. 9): how many rows");
        for (int rows = 1; rows <= 16; rows++) {
            int[] bytes = new int[2 * rows];
            for (int i = 0; i < rows; i++) {
                bytes[2 * i] = i % 2 == 0 ? 0 : 8;
                bytes[2 * i + 1] = i % 2 == 0 ? 0 : 9;
            }
            S.is("rows", Calls.hear(x, bytes), rows);
            S.is("so many are heard", x.has(5), rows);
            S.is("by them", x.heard(), rows == 1 ? 10000000 : 1000000);
        }
        S.of(26, "NONE, refused (1), all staying, when it is none such (a DAY that is mute now, too), or without a lock");
        int[][] wrong = {{}, {0}, {0, 0, 0}, new int[33], new int[34], new int[1600], {9, 0}, {255, 0}, {0, 10}, {0, 255}, {1, 0},
            {0, 0, 9, 0}, {0, 0, 0, 10}, {0, 0, 1, 0}};
        int refused = 0;
        for (int[] bytes : wrong) {
            String label = java.util.Arrays.toString(bytes.length > 9 ? new int[] {bytes.length} : bytes);
            S.is(label, Calls.hear(x, bytes), -1);
            refused++;
            S.is("refused " + label, x.status(1), refused);
            S.is("all stays " + label, x.has(5), 16);
            S.is("heard stays " + label, x.heard(), 1000000);
        }
        x.feed(0, 0, 0, 0, 0);
        x.end(3);
        S.is("one byte of a second row, 0 behind it", x.hear(), -1);
        S.of(26, "The tape (it goes)");
        S.is("behind a refusal", x.feed(0, 0, 0, 0, 0), 20);
        Calls.hear(x, 0, 0);
        S.is("behind rows", x.feed(0, 0, 0, 0, 0), 20);
        SameKeeper y = new SameKeeper();
        S.is("without a lock", Calls.hear(y, 0, 0), -1);
        S.is("refused without a lock", Snapshot.refusals(y), "0 1 0 0 0 0");
    }

    private static void heard() {
        S.of(27, "all, if nothing is; none, if a DAY of it is mute by now); NOTHING without a lock");
        SameKeeper x = Calls.locked(FREE);
        S.is("nothing is heard", x.heard(), 1000);
        Calls.hear(x, 0, 4, 2, 5);
        S.is("two rows", x.heard(), 10);
        x.mute(1, 1);
        S.is("another day is mute", x.heard(), 1);
        x.mute(2, 1);
        S.is("a day of it is mute", x.heard(), 0);
        Calls.hear(x, 0, 4);
        S.is("the rows of before count not", x.heard(), 1);
        x.mute(0, 1);
        S.is("the day is mute", x.heard(), 0);
        x.mute(0, 0);
        S.is("it is mute no more", x.heard(), 1);
        S.is("by 0 on a day that is mute by now", heardThenMute(0), 0);
        S.is("no week agrees", Calls.locked(NEVER).heard(), 0);
        S.is("without a lock", new SameKeeper().heard(), NOTHING);
    }

    private static long heardThenMute(int word) {
        SameKeeper x = Calls.locked(FREE);
        Calls.hear(x, 1, word);
        x.mute(1, 1);
        return x.heard();
    }

    private static void tells() {
        S.of(TERMS, "the DAY by whose MOOD, whatever it is, the most WEEKS left (by what is HEARD) are fewest; of like ones the first");
        SameKeeper x = Calls.locked(FREE);
        S.is("of like ones", x.tells(0), 0);
        S.is("are left", x.tells(1), 100);
        Calls.hear(x, 0, 3);
        S.is("the second day", x.tells(0), 1);
        S.is("are left by what is heard", x.tells(1), 10);
        S.is("the last day", Calls.locked("lock 3 from 0;does told*(day/2);").tells(0), 2);
        S.is("one week", Calls.locked("lock 3 from 0;does mood;").tells(1), 1);
        S.of(28, "NOTHING without a WEEK, without a lock, or for others");
        for (int what : new int[] {-1, 2, LEAST, MOST}) {
            S.is("what " + what, x.tells(what), NOTHING);
        }
        Calls.hear(x, 0, 3, 0, 4);
        S.is("no week by what is heard", x.tells(0), NOTHING);
        S.is("no week by what is heard, either", x.tells(1), NOTHING);
        S.is("no week at all", Calls.locked(NEVER).tells(1), NOTHING);
        Calls.hear(x, 0, 0);
        x.mute(0, 1);
        S.is("a day of it is mute", x.tells(0), NOTHING);
        S.is("without a lock", new SameKeeper().tells(0), NOTHING);
    }

    private static void same() {
        SameKeeper x = new SameKeeper();
        S.of(TERMS, "are a multiple of 1440");
        S.is("0 is one", x.same(0, 0), 0);
        S.is("0 is one, whatever each is", x.same(0, 1439), 0);
        S.is("1440 below 0", x.same(720, 1080), 2);
        S.is("many times round", x.same(1, 1439), 1439);
        S.is("the greatest", x.same(1439, 1439), 1);
        S.is("the fewest", x.same(0, 720), 0);
        S.of(29, "minutes past now (0 .. 1439), each WEEK so many earlier (0 .. 1439); NONE when it never is, or for others");
        S.is("never by 0", x.same(1, 0), -1);
        S.is("never by 2", x.same(1439, 2), -1);
        S.is("never by 720", x.same(719, 720), -1);
        for (int wrong : new int[] {-1, 1440, 2880, -1440, LEAST, MOST}) {
            S.is("past " + wrong, x.same(wrong, 1), -1);
            S.is("each " + wrong, x.same(0, wrong), -1);
        }
        for (int past = 0; past < 1440; past += 37) {
            for (int each = 0; each < 1440; each += 31) {
                S.is("past " + past + " each " + each, new SameKeeper().same(past, each), sameByHand(past, each));
            }
        }
    }

    private static int sameByHand(int past, int each) {
        java.util.Set<Integer> seen = new java.util.HashSet<>();
        int at = past;
        int weeks = 0;
        while (at != 0 && seen.add(at)) {
            at = (at + 1440 - each) % 1440;
            weeks++;
        }
        return at == 0 ? weeks : -1;
    }
}

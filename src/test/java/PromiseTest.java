/** Each promise of the document by hand; texts with faults are in FaultTest. */
public final class PromiseTest {
    private static final Due DUE = new Due();
    private static final long NOTHING = SameKeeper.NOTHING;
    /** He becomes whatever he is told: every week agrees. */
    private static final String FREE = "lock 2 from 0;";

    public static void main(String[] args) {
        newObject();
        tape();
        lock();
        has();
        day();
        told();
        does();
        sums();
        kept();
        weeks();
        mood();
        many();
        hushed();
        wished();
        lies();
        later();
        ring();
        frees();
        pay();
        rest();
        unlike();
        known();
        sure();
        hear();
        tells();
        same();
        set();
        mute();
        go();
        chance();
        undo();
        seed();
        ask();
        image();
        on();
        status();
        DUE.end();
    }

    private static void is(String what, long got, long want) {
        DUE.is(what, got, want);
    }

    private static void is(String what, boolean got, boolean want) {
        DUE.is(what, got, want);
    }

    /** The check is put behind the bytes. */
    private static int[] image(int... bytes) {
        int[] all = java.util.Arrays.copyOf(bytes, bytes.length + 1);
        int c = 139;
        for (int b : bytes) {
            c = (3 * c + b) % 251;
        }
        all[bytes.length] = c;
        return all;
    }

    private static void newObject() {
        SameKeeper x = new SameKeeper();
        for (int what = 0; what <= 6; what++) {
            is("1: has " + what, x.has(what), 0);
        }
        is("1: weeks", x.weeks(), NOTHING);
        is("1: fault", x.fault(0), 0);
        is("1: place", x.fault(1), -1);
        is("1: octet", x.octet(0), -1);
        for (int what = 0; what <= 5; what++) {
            is("1: status " + what, x.status(what), 0);
        }
        is("1: NONE", SameKeeper.NONE, -1);
        is("1: NOTHING", NOTHING, -1000000000000000L);
    }

    private static void tape() {
        SameKeeper x = new SameKeeper();
        for (int n = 1; n <= 80; n++) {
            is("2: feed", x.feed(0x20202020, 0x20202020, 0x20202020, 0x20202020, 0x20202020), 20 * n);
        }
        is("2: feed beyond 1600", x.feed(0, 0, 0, 0, 0), -1);
        is("2: refused", x.status(0), 1);
        is("3: end beyond", x.end(1601), false);
        is("3: end below", x.end(-1), false);
        is("3: end least", x.end(Integer.MIN_VALUE), false);
        is("3: refused", x.status(0), 4);
        is("3: end at all", x.end(1600), true);
        is("3: end ahead", x.end(1581), true);
        is("2: feed beyond by one", x.feed(0, 0, 0, 0, 0), -1);
        is("3: end for one more", x.end(1580), true);
        is("2: feed to 1600", x.feed(0x20202020, 0x20202020, 0x20202020, 0x20202020, 0x20202020), 1600);
        is("4: a tape of blanks", x.lock(), -1);
        is("4: its place", x.fault(1), 1600);
        is("4: the tape goes", x.end(1), false);
        x.feed(0x01020304, 0xff808182, 5, 6, 7);
        is("3: end", x.end(6), true);
        is("3: end behind it", x.end(7), false);
        is("2: behind six", x.feed(0, 0, 0, 0, 0), 26);
        SameKeeper y = new SameKeeper();
        Calls.put(y, Calls.bytesOf("lock 2 from 0; wage (" + " ".repeat(1577) + "1"));
        is("4: a text of 1599", y.lock(), -1);
        is("4: its end", y.fault(1), 1599);
    }

    private static void lock() {
        SameKeeper x = Calls.locked(FREE);
        is("4: statements", Calls.lock(x, "lock 3 from 7; barge 1 2; barge 1 5; wet 2 9; mute 0; rain 3;"), 6);
        is("4: days", x.has(0), 3);
        is("4: the last barge counts", x.day(1, 0), 5);
        is("4: without", x.day(0, 0), 0);
        x.go();
        x.set(0, 0, 1);
        Calls.hear(x, 1, 1);
        x.seed(5);
        x.image();
        is("4: a lock again", Calls.lock(x, "lock 4 from 2;"), 1);
        is("4: week", x.has(1), 0);
        is("4: mood", x.has(2), 2);
        is("4: mute", x.has(3), 0);
        is("4: kept", x.has(4), 0);
        is("4: heard", x.has(5), 0);
        is("4: undoable", x.has(6), 0);
        is("4: barges", x.day(1, 0), 0);
        is("4: undo", x.undo(), false);
        is("4: the seed stays", x.chance(1), 1);
        SameKeeper y = Calls.locked("lock 4 from 2;");
        y.seed(5);
        y.chance(1);
        for (int d = 0; d < 4; d++) {
            is("4: by the seed that stayed", x.day(d, 0), y.day(d, 0));
        }
        longTexts();
        SameKeeper z = Calls.locked("lock 2 from 0;does week;");
        is("4: does", z.does(0, 0, 5), 0);
        Calls.lock(z, "lock 2 from 0;does 3;");
        is("4: another does", z.does(0, 0, 5), 3);
    }

    private static void longTexts() {
        SameKeeper x = new SameKeeper();
        String head = "lock 2 from 0;does 1";
        String sum = "+1".repeat((1599 - head.length()) / 2);
        for (int n = 0; n < 5; n++) {
            is("4: a text that fills the tape", Calls.lock(x, head + sum + ";"), 2);
            is("4: its sum", x.does(0, 0, 0), (1 + sum.length() / 2) % 10);
            is("4: what it tells not", x.told(0, 7), 7);
        }
        String test = "often all" + " and all".repeat(198);
        is("36: a question that fills the tape", Calls.ask(x, test), 2);
    }

    private static void has() {
        SameKeeper x = Calls.locked("lock 5 from 3; mute 0; mute 4;does mood;");
        is("6: days", x.has(0), 5);
        is("6: week", x.has(1), 0);
        is("6: mood", x.has(2), 3);
        is("6: mute", x.has(3), 2);
        x.go();
        x.go();
        Calls.hear(x, 1, 3, 2, 3, 3, 3);
        is("6: week two", x.has(1), 2);
        is("6: kept", x.has(4), 2);
        is("6: rows", x.has(5), 3);
        is("6: acts", x.has(6), 2);
        is("6: below", x.has(-1), -1);
        is("6: above", x.has(7), -1);
    }

    private static void day() {
        SameKeeper x = Calls.locked("lock 9 from 0; barge 8 9; wet 8 7; wet 8 6; mute 8;");
        is("7: barge", x.day(8, 0), 9);
        is("7: wet", x.day(8, 1), 6);
        is("7: mute", x.day(8, 2), 1);
        is("7: not mute", x.day(7, 2), 0);
        is("7: what", x.day(8, 3), -1);
        is("7: what below", x.day(8, -1), -1);
        is("7: no day", x.day(9, 0), -1);
        is("7: no day below", x.day(-1, 0), -1);
    }

    private static void told() {
        SameKeeper x = Calls.locked("lock 3 from 0; barge 0 2; wet 1 3; mute 2; says mood*3 + barge - wet*4 + day + week;");
        is("8: barge", x.told(0, 4), 4);
        is("8: a sum below 0", x.told(1, 0), 9);
        is("8: mute", x.told(2, 0), -1);
        is("8: mood", x.told(0, 10), -1);
        is("8: mood below", x.told(0, -1), -1);
        is("8: no day", x.told(3, 0), -1);
        is("8: no day below", x.told(-1, 0), -1);
        is("8: without says", Calls.locked(FREE).told(1, 6), 6);
        Calls.on(x, image(0, 3, 0, 2, 0, 0, 0, 3, 0, 0, 0, 1));
        is("8: week three", x.told(0, 4), 7);
    }

    private static void does() {
        SameKeeper x = Calls.locked("lock 3 from 0; barge 0 2; wet 1 3; mute 2; does told*2 + mood - wet*5 + barge + day + alone*6;");
        is("9: word", x.does(0, 1, 4), 1);
        is("9: a sum below 0", x.does(1, 0, 0), 6);
        is("9: mute", x.does(2, 1, 9), 9);
        is("9: mute, whatever the word", x.does(2, 1, 0), 9);
        is("9: mute, whatever it is", x.does(2, 1, 77), 9);
        is("9: mute, another mood", x.does(2, 10, 0), -1);
        is("9: word above", x.does(0, 1, 10), -1);
        is("9: word below", x.does(0, 1, -1), -1);
        is("9: mood above", x.does(0, 10, 1), -1);
        is("9: mood below", x.does(0, -1, 1), -1);
        is("9: no day", x.does(3, 1, 1), -1);
        is("9: no day below", x.does(-1, 1, 1), -1);
        is("9: without does", Calls.locked(FREE).does(0, 3, 8), 8);
        SameKeeper y = Calls.locked("lock 2 from 0;mute 0;");
        is("9: mute without does", y.does(0, 3, 8), 0);
    }

    private static void sums() {
        sum("2+3*4", 4);
        sum("20-3-4", 3);
        sum("7/2*2", 6);
        sum("(0-7)/2", 6);
        sum("7/(0-2)", 6);
        sum("(0-7)/(0-2)", 3);
        sum("9/0+1", 1);
        sum("9999*9999-9999", 1);
        sum("0-9999*9999+9999", 9);
        sum("(0-9999)*9999+9999", 9);
        sum("999*1000+2001", 0);
        sum("9999*100+101-1", 9);
        sum("0-9999*100-101+1", 1);
        sum("min(3,8)*max(2,5)", 5);
        sum("min(0-1,4)", 9);
        sum("((((((9))))))", 9);
        sum("1000", 0);
    }

    private static void sum(String sum, int want) {
        SameKeeper x = Calls.locked("lock 2 from 0; says " + sum + ";does " + sum + ";");
        is("I: says " + sum, x.told(0, 0), want);
        is("I: does " + sum, x.does(1, 0, 0), want);
    }

    private static void kept() {
        SameKeeper x = Calls.locked("lock 2 from 0;does mood + 1 - day;");
        for (int n = 0; n < 32; n++) {
            is("10: go", x.go(), (n + 1) % 10);
        }
        is("10: thirty are told", x.has(4), 30);
        is("10: the oldest", x.kept(0, 0), 2);
        is("10: its mood", x.kept(0, 2), 3);
        is("10: the latest", x.kept(29, 0), 31);
        is("10: its mood", x.kept(29, 2), 2);
        is("10: how many agreed", x.kept(29, 1), 1);
        is("10: beyond", x.kept(30, 0), NOTHING);
        is("10: below", x.kept(-1, 0), NOTHING);
        is("10: what", x.kept(0, 3), NOTHING);
        is("10: what below", x.kept(0, -1), NOTHING);
        x.undo();
        is("10: thirty still", x.has(4), 30);
        is("10: an older one comes back", x.kept(0, 0), 1);
        is("10: the latest", x.kept(29, 0), 30);
        SameKeeper y = Calls.locked("lock 9 from 3;");
        y.go();
        is("10: many agreed", y.kept(0, 1), 1000000000L);
        SameKeeper z = Calls.locked("lock 2 from 3;does (week+1)/100;");
        for (int n = 0; n < 33; n++) {
            is("10: thirty at once", z.chance(30), 30);
        }
        for (int n = 0; n < 9; n++) {
            z.go();
        }
        is("10: to week 999", z.has(1), 999);
        is("10: the last week", z.kept(29, 0), 998);
        is("10: its mood", z.kept(29, 2), 9);
        is("10: the oldest that is told", z.kept(0, 0), 969);
        for (int n = 0; n < 20; n++) {
            z.undo();
        }
        is("10: twenty acts ago", z.has(1), 660);
        is("10: kept twenty acts ago", z.kept(0, 0) * 1000 + z.kept(29, 0), 630659);
        is("10: the mood then", z.kept(29, 2), 6);
    }

    private static void weeks() {
        is("11: all", Calls.locked("lock 9 from 0;").weeks(), 1000000000L);
        is("11: none", Calls.locked("lock 2 from 0;does told+1;").weeks(), 0);
        is("11: one", Calls.locked("lock 9 from 4;does mood;").weeks(), 1);
        is("11: two a day", Calls.locked("lock 3 from 4;does told*told*5;").weeks(), 8);
        is("11: a mute day", Calls.locked("lock 3 from 4;mute 1;").weeks(), 100);
        SameKeeper x = Calls.locked("lock 2 from 0;does told + week/2*week;");
        x.go();
        is("11: week one", x.weeks(), 100);
        x.go();
        is("11: week two", x.weeks(), 0);
    }

    private static void mood() {
        SameKeeper x = Calls.locked("lock 9 from 0;");
        is("12: first", x.mood(0, 8), 0);
        is("12: by its row", x.mood(123456789, 0), 1);
        is("12: by its row", x.mood(123456789, 8), 9);
        is("12: last", x.mood(999999999, 4), 9);
        is("12: beyond", x.mood(1000000000, 0), -1);
        is("12: far beyond", x.mood(Integer.MAX_VALUE, 0), -1);
        is("12: below", x.mood(-1, 0), -1);
        is("12: no day", x.mood(0, 9), -1);
        is("12: no day below", x.mood(0, -1), -1);
        SameKeeper y = Calls.locked("lock 3 from 4;does told*told*5;");
        is("12: of eight", y.mood(5, 0), 5);
        is("12: of eight", y.mood(5, 1), 0);
        is("12: of eight", y.mood(5, 2), 5);
        is("12: not eight", y.mood(8, 2), -1);
    }

    private static void many() {
        SameKeeper x = Calls.locked("lock 3 from 4;mute 1;");
        is("13: any", x.many(0, 7), 10);
        is("13: mute", x.many(1, 0), 100);
        is("13: mute, another", x.many(1, 1), 0);
        is("13: mood", x.many(0, 10), NOTHING);
        is("13: mood below", x.many(0, -1), NOTHING);
        is("13: no day", x.many(3, 0), NOTHING);
        is("13: no day below", x.many(-1, 0), NOTHING);
        is("13: nine days", Calls.locked("lock 9 from 4;").many(8, 9), 100000000L);
    }

    private static void hushed() {
        is("14: anyway", Calls.locked(FREE).hushed(), 0);
        is("14: every day", Calls.locked("lock 3 from 0;does told+1;").hushed(), 7);
        is("14: mute ones stay", Calls.locked("lock 3 from 0;mute 1;does told+1;").hushed(), 5);
        is("14: the last alone", Calls.locked("lock 3 from 0;does told+max(day-1,0);").hushed(), 4);
        is("14: without a lock", new SameKeeper().hushed(), -1);
        is("14: one of the later days rather than two", Calls.locked(
            "lock 3 from 0;does (1-day/2)*(mood+alone)+day/2*(told+2-mood);").hushed(), 4);
        // on day 2 a week agrees behind mood 1 alone, and each of the days ahead turns to it, mute
        is("14: least of like ones", Calls.locked(
            "lock 3 from 0;does max(0,1-day/2)*(max(mood,alone)) + day/2*(told+1-mood);says mood;").hushed(), 1);
    }

    private static void wished() {
        SameKeeper x = Calls.locked("lock 3 from 4;");
        is("15: by the day itself", x.wished(2, 0), 4);
        is("15: another mood never", x.wished(2, 1), -1);
        SameKeeper y = Calls.locked("lock 3 from 4;does mood;");
        is("15: anyway", y.wished(1, 4), 0);
        is("15: never", y.wished(1, 5), -1);
        is("15: mood", y.wished(1, 10), -1);
        is("15: mood below", y.wished(1, -1), -1);
        is("15: no day", y.wished(3, 4), -1);
        is("15: no day below", y.wished(-1, 4), -1);
        SameKeeper z = Calls.locked("lock 3 from 4;mute 0;does mood*(1-alone)+alone*(mood+day+1);");
        is("15: it is mute", z.wished(2, 5), 0);
        is("15: one more", z.wished(2, 7), 2);
        is("15: another one more", z.wished(2, 8), 4);
        is("15: both", z.wished(2, 0), 6);
        is("15: without a lock", new SameKeeper().wished(0, 0), -1);
        // only no week at all would have it so
        is("15: a week must agree", Calls.locked("lock 2 from 0;does told+1;").wished(0, 7), -1);
    }

    private static void lies() {
        is("16: none but 0", Calls.locked(FREE).lies(), 1);
        is("16: all", Calls.locked("lock 2 from 0;does mood;").lies(), 1023);
        is("16: 9 alone", Calls.locked("lock 2 from 0;does told+1;").lies(), 512);
        is("16: none", Calls.locked("lock 2 from 0;does told+1+day;").lies(), 0);
        is("16: mute days hear no lie", Calls.locked("lock 2 from 0;mute 0;mute 1;").lies(), 1023);
        is("16: a mute one and one", Calls.locked("lock 2 from 0;mute 0;").lies(), 1);
        is("16: without a lock", new SameKeeper().lies(), -1);
        is("16: each finds its week", Calls.locked("lock 2 from 0;says mood*2;").lies(), 1023);
        is("16: even ones", Calls.locked("lock 2 from 0;says mood*2;does told/2;").lies() & 1, 1);
    }

    private static void later() {
        SameKeeper x = Calls.locked("lock 2 from 3;does mood+1-day;");
        is("17: now", x.later(0), 3);
        is("17: one", x.later(1), 4);
        is("17: thirty", x.later(30), 3);
        is("17: thirty-one", x.later(31), -1);
        is("17: below", x.later(-1), -1);
        is("17: nothing goes", x.has(1), 0);
        SameKeeper y = Calls.locked("lock 2 from 3;does told*(1-min(1,week/3))+(1-day)*min(1,week/3)*(told+1)+mood*0;");
        is("17: three go", y.later(3), 0);
        is("17: the fourth can't", y.later(4), -1);
        Calls.on(x, image(3, 229, 3, 0, 0, 0, 0, 0, 0));
        is("17: to 999", x.later(2), 5);
        is("17: beyond 999", x.later(3), -1);
        is("17: without a lock", new SameKeeper().later(0), -1);
    }

    private static void ring() {
        SameKeeper x = Calls.locked("lock 2 from 3;does mood+1-day;");
        is("18: ten", x.ring(), 10);
        is("18: one", Calls.locked("lock 2 from 3;does mood;").ring(), 1);
        is("18: never", Calls.locked(FREE.replace("from 0", "from 4")).ring(), -1);
        is("18: behind thirty", Calls.locked("lock 2 from 0;does min(1,max(0,29-week));").ring(), 30);
        is("18: behind more", Calls.locked("lock 2 from 0;does min(1,max(0,30-week));").ring(), -1);
        is("18: can't", Calls.locked("lock 2 from 3;does told+1;").ring(), -1);
        Calls.on(x, image(3, 221, 3, 0, 0, 0, 0, 0, 0));
        is("18: by 999", x.ring(), 10);
        Calls.on(x, image(3, 222, 3, 0, 0, 0, 0, 0, 0));
        is("18: beyond 999", x.ring(), -1);
        is("18: without a lock", new SameKeeper().ring(), -1);
    }

    private static void frees() {
        SameKeeper x = Calls.locked("lock 2 from 0;barge 0 9;does told + (barge - 6)*(barge - 8)*(1-day) + (wet - 3)*day;");
        is("19: the least of like ones", x.frees(0, 0), 0);
        x.set(1, 1, 3);
        is("19: the least that frees", x.frees(0, 0), 6);
        is("19: the barge stays", x.day(0, 0), 9);
        is("19: wet of like ones", x.frees(0, 1), 0);
        x.set(0, 0, 8);
        is("19: wet", x.frees(1, 1), 3);
        is("19: what", x.frees(0, 2), -1);
        is("19: what below", x.frees(0, -1), -1);
        is("19: no day", x.frees(2, 0), -1);
        is("19: no day below", x.frees(-1, 0), -1);
        is("19: the weeks stay", x.weeks(), 100);
    }

    private static void pay() {
        SameKeeper x = Calls.locked("lock 3 from 0;barge 1 2;wage mood*(5-mood)*(barge-1)+100;");
        is("20: pay", x.pay(), 378);
        is("21: least of like ones", x.paid(1), 2);
        is("21: below 0 is best", x.paid(0), 9);
        is("21: no day", x.paid(3), -1);
        is("21: no day below", x.paid(-1), -1);
        SameKeeper none = Calls.locked("lock 2 from 0;does told+1;");
        is("20: none agrees", none.pay(), NOTHING);
        is("21: none agrees", none.paid(0), -1);
        is("20: without a lock", new SameKeeper().pay(), NOTHING);
        is("21: without a lock", new SameKeeper().paid(0), -1);
        is("20: above the bound of a sum", Calls.locked("lock 9 from 0;wage 9999*9999;").pay(), 9000000);
        is("20: below 0", Calls.locked("lock 9 from 0;wage 0-9999*9999;").pay(), -9000000);
        is("20: without wage", Calls.locked("lock 3 from 0;").pay(), 27);
        SameKeeper y = Calls.locked("lock 2 from 0;does told*told*5;wage (5-mood)*(1-day)+mood*day;");
        is("20: day by day", y.pay(), 10);
        is("21: day by day", y.paid(0) * 10 + y.paid(1), 5);
    }

    private static void rest() {
        is("22: anyway", Calls.locked(FREE).rest(), 0);
        is("22: each gains by being mute", Calls.locked("lock 3 from 0;does told+alone*5;").rest(), 7);
        is("22: mute ones stay", Calls.locked("lock 3 from 0;mute 0;does told+alone*5;wage 0-mood;").rest(), 0);
        is("22: none loses", Calls.locked("lock 3 from 0;does told+alone*5;wage 0-mood;").rest(), 0);
        is("22: it must agree", Calls.locked("lock 2 from 0;does told+1;wage 0;").rest(), 3);
        is("22: the other days count not", Calls.locked("lock 2 from 0;does mood+alone;wage day*mood;").rest(), 2);
        // by being mute or not, each of the two days answers the other one, round and round
        is("22: no set", Calls.locked("lock 2 from 0;does (1-day)*(told+alone*5)"
            + "+day*((1-alone)*(told+(mood-3)*(mood-5))+alone*(2-mood/5));"
            + "wage (1-day)*(mood+10*(1-min(1,mood)))+day*(1+mood*(5-3*mood)/2);").rest(), -1);
        is("22: without a lock", new SameKeeper().rest(), -1);
    }

    private static void unlike() {
        SameKeeper x = Calls.locked("lock 9 from 0;");
        is("23: all", x.unlike(0, 999999999), 9);
        is("23: one", x.unlike(0, 5), 1);
        is("23: itself", x.unlike(77, 77), 0);
        is("23: beyond", x.unlike(0, 1000000000), -1);
        is("23: beyond", x.unlike(1000000000, 0), -1);
        is("23: below", x.unlike(-1, 0), -1);
        is("23: below", x.unlike(0, -1), -1);
        is("23: none", Calls.locked("lock 2 from 0;does told+1;").unlike(0, 0), -1);
    }

    private static void known() {
        SameKeeper x = Calls.locked("lock 3 from 0;says mood/2;does (told*2+mood)*(1-min(day,1))+told*2*min(day,1);mute 2;");
        is("24: by a word", x.known(1, 3, 1), 64);
        is("24: another day", x.known(1, 3, 0), 341);
        is("24: a mute day's moods", x.known(1, 3, 2), 1);
        is("24: told on a mute day", x.known(2, 0, 0), -1);
        is("24: a word never told", x.known(1, 7, 1), 0);
        is("24: word", x.known(1, 10, 1), -1);
        is("24: word below", x.known(1, -1, 1), -1);
        is("24: no day", x.known(3, 1, 1), -1);
        is("24: no day of", x.known(1, 1, 3), -1);
        is("24: no day below", x.known(-1, 1, 1), -1);
        is("24: no day of below", x.known(1, 1, -1), -1);
    }

    private static void sure() {
        SameKeeper x = Calls.locked("lock 4 from 0;does told*max(0,1-day)+mood*min(1,day)*max(0,3-day)+told*(day/3);");
        is("25: three days", x.sure(0, 6), 3);
        is("25: from it on alone", x.sure(1, 6), 2);
        is("25: the last", x.sure(3, 6), 1);
        is("25: word", x.sure(0, 10), -1);
        is("25: word below", x.sure(0, -1), -1);
        is("25: no day", x.sure(4, 0), -1);
        is("25: no day below", x.sure(-1, 0), -1);
        x.mute(0, 1);
        is("25: mute", x.sure(0, 0), -1);
        is("25: no such week", x.sure(1, 6), -1);
        is("25: such weeks", x.sure(1, 0), 2);
        is("25: not sure at all", Calls.locked("lock 2 from 0;says mood*(1-day)+day;does told*(1-day)+mood*day;").sure(1, 1), 0);
        is("25: two moods say it", Calls.locked("lock 2 from 0;says mood*mood;does 5*mood*0+told/5*5;").sure(0, 5), 1);
    }

    private static void hear() {
        SameKeeper x = Calls.locked("lock 3 from 0;");
        is("27: nothing is heard", x.heard(), 1000);
        is("26: a row", Calls.hear(x, 1, 4), 1);
        is("27: by a row", x.heard(), 100);
        is("26: rows", Calls.hear(x, 0, 9, 2, 0), 2);
        is("27: by rows, and them alone", x.heard(), 10);
        is("26: a day twice", Calls.hear(x, 0, 9, 0, 9), 2);
        is("27: a day twice", x.heard(), 100);
        is("26: unlike words", Calls.hear(x, 0, 9, 0, 8), 2);
        is("27: unlike words", x.heard(), 0);
        is("26: sixteen rows", Calls.hear(x, new int[32]), 16);
        is("27: sixteen rows", x.heard(), 100);
        is("26: seventeen rows", Calls.hear(x, new int[34]), -1);
        is("26: no row", Calls.hear(x), -1);
        is("26: half a row", Calls.hear(x, 1), -1);
        is("26: a row and a half", Calls.hear(x, 1, 1, 1), -1);
        is("26: no day", Calls.hear(x, 3, 1), -1);
        is("26: no word", Calls.hear(x, 1, 10), -1);
        is("26: a later row", Calls.hear(x, 1, 1, 255, 1), -1);
        is("26: refused", x.status(1), 7);
        is("26: all stays", x.has(5), 16);
        is("26: the tape goes", x.feed(0, 0, 0, 0, 0), 20);
        x.mute(1, 1);
        is("26: a mute day", Calls.hear(x, 1, 1), -1);
        is("27: another day is mute", x.heard(), 10);
        x.mute(0, 1);
        is("27: the day is mute by now", x.heard(), 0);
        x.undo();
        is("27: it is not any more", x.heard(), 10);
        SameKeeper y = new SameKeeper();
        is("26: without a lock", Calls.hear(y, 0, 1), -1);
        is("26: refused without a lock", y.status(1), 1);
        is("26: the tape goes without a lock", y.feed(0, 0, 0, 0, 0), 20);
        is("27: without a lock", y.heard(), NOTHING);
    }

    private static void tells() {
        SameKeeper x = Calls.locked("lock 3 from 0;does told*max(0,1-day)*2/2+told*told*5*min(1,day);");
        is("28: the day", x.tells(0), 0);
        is("28: how many", x.tells(1), 4);
        Calls.hear(x, 0, 3);
        is("28: by what is heard", x.tells(0), 1);
        is("28: how many are left", x.tells(1), 2);
        Calls.hear(x, 1, 7);
        is("28: no week", x.tells(0), NOTHING);
        is("28: no week", x.tells(1), NOTHING);
        Calls.hear(x, 1, 5);
        is("28: others", x.tells(2), NOTHING);
        is("28: others below", x.tells(-1), NOTHING);
        is("28: without a lock", new SameKeeper().tells(0), NOTHING);
        is("28: of like ones the first", Calls.locked("lock 9 from 0;").tells(0), 0);
        is("28: nine days", Calls.locked("lock 9 from 0;").tells(1), 100000000L);
        SameKeeper y = Calls.locked("lock 2 from 0;");
        Calls.hear(y, 0, 3);
        y.mute(0, 1);
        is("28: the day heard is mute", y.tells(0), NOTHING);
    }

    private static void same() {
        SameKeeper x = new SameKeeper();
        is("29: now", x.same(0, 0), 0);
        is("29: now, too", x.same(0, 1439), 0);
        is("29: never", x.same(1, 0), -1);
        is("29: one", x.same(700, 700), 1);
        is("29: round", x.same(1, 7), 823);
        is("29: never by halves", x.same(1439, 2), -1);
        is("29: most", x.same(1, 1439), 1439);
        is("29: the most past", x.same(1439, 1), 1439);
        is("29: past", x.same(1440, 1), -1);
        is("29: past below", x.same(-1, 1), -1);
        is("29: each", x.same(0, 1440), -1);
        is("29: each below", x.same(0, -1), -1);
    }

    private static void set() {
        SameKeeper x = Calls.locked("lock 2 from 0;barge 1 4;");
        is("30: barge", x.set(1, 0, 9), true);
        is("30: is so", x.day(1, 0), 9);
        is("30: wet", x.set(0, 1, 1), true);
        is("30: is so", x.day(0, 1), 1);
        is("30: can be undone", x.has(6), 2);
        is("30: it is that", x.set(1, 0, 9), false);
        is("30: much", x.set(1, 0, 10), false);
        is("30: much below", x.set(1, 0, -1), false);
        is("30: what", x.set(1, 2, 1), false);
        is("30: what below", x.set(1, -1, 1), false);
        is("30: no day", x.set(2, 0, 1), false);
        is("30: no day below", x.set(-1, 0, 1), false);
        is("30: refused", x.status(2), 7);
        is("30: no more to undo", x.has(6), 2);
        SameKeeper y = Calls.locked("lock 2 from 0;does told+barge;");
        y.weeks();
        y.set(1, 0, 1);
        is("30: the weeks by it", y.weeks(), 0);
    }

    private static void mute() {
        SameKeeper x = Calls.locked("lock 2 from 0;mute 1;");
        is("31: mute", x.mute(0, 1), true);
        is("31: is so", x.day(0, 2), 1);
        is("31: no more", x.mute(1, 0), true);
        is("31: is so", x.day(1, 2), 0);
        is("31: can be undone", x.has(6), 2);
        is("31: already", x.mute(0, 1), false);
        is("31: already not", x.mute(1, 0), false);
        is("31: on", x.mute(1, 2), false);
        is("31: on below", x.mute(1, -1), false);
        is("31: no day", x.mute(2, 1), false);
        is("31: no day below", x.mute(-1, 1), false);
        is("31: refused", x.status(2), 6);
        is("31: the weeks by it", x.weeks(), 10);
    }

    private static void go() {
        SameKeeper x = Calls.locked("lock 2 from 3;does told*0+mood+2;");
        is("32: go", x.go(), 7);
        is("32: week", x.has(1), 1);
        is("32: mood", x.has(2), 7);
        is("32: kept week", x.kept(0, 0), 0);
        is("32: kept mood", x.kept(0, 2), 7);
        is("32: the first week goes", Calls.locked("lock 2 from 3;").go(), 0);
        SameKeeper none = Calls.locked("lock 2 from 3;does told+1;");
        is("32: can't", none.go(), -1);
        is("32: no act", none.has(6), 0);
        is("32: refused", none.status(3), 1);
        Calls.on(x, image(3, 230, 3, 0, 0, 0, 0, 0, 0));
        is("32: at 998", x.go(), 7);
        is("32: 999", x.has(1), 999);
        is("32: beyond 999", x.go(), -1);
        is("32: it stays", x.has(1), 999);
        is("32: refused beyond", x.status(3), 1);
        is("32: without a lock", new SameKeeper().go(), -1);
    }

    private static void chance() {
        // the seed 1 draws 1103527590, 377401575, 662824084, 1147902781, 2035015474, 368800899
        SameKeeper x = Calls.locked("lock 2 from 0;");
        is("33: one", x.chance(1), 1);
        is("33: the second draw is the barge", x.day(0, 0), 377401575L / 64 % 10);
        is("33: the fourth draw, too", x.day(1, 0), 1147902781L / 64 % 10);
        is("33: the fifth draw is the week", x.has(2), 2035015474L / 64 % 100 % 10);
        is("33: kept", x.kept(0, 1), 100);
        is("33: one act", x.has(6), 1);
        SameKeeper wet = Calls.locked("lock 2 from 0;rain 100;wet 1 8;barge 0 5;");
        is("33: rain", wet.chance(3), 3);
        is("33: wet", wet.day(0, 1), 3);
        is("33: wet is 9 at most", wet.day(1, 1), 9);
        is("33: no barge", wet.day(0, 0), 5);
        is("33: one act still", wet.has(6), 1);
        is("33: three are kept", wet.has(4), 3);
        SameKeeper some = Calls.locked("lock 2 from 0;rain 90;");
        some.chance(1);
        is("33: a draw of 100 below rain", some.day(0, 1), 1103527590L / 64 % 100 < 90 ? 1 : 0);
        SameKeeper none = Calls.locked("lock 2 from 0;does told+1;rain 100;");
        is("33: none agrees", none.chance(5), 0);
        is("33: that is all", none.day(0, 1), 1);
        is("33: it is an act", none.has(6), 1);
        is("33: no week", none.has(1), 0);
        is("33: it can be undone", none.undo(), true);
        is("33: undone", none.day(0, 1), 0);
        is("33: 0", x.chance(0), -1);
        is("33: below", x.chance(-1), -1);
        is("33: 31", x.chance(31), -1);
        is("33: refused", x.status(3), 3);
        is("33: 30", x.chance(30), 30);
        Calls.on(x, image(3, 226, 3, 0, 0, 0, 0, 0, 0));
        is("33: beyond 999", x.chance(6), -1);
        is("33: to 999", x.chance(5), 5);
        is("33: at 999", x.chance(1), -1);
        is("33: without a lock", new SameKeeper().chance(1), -1);
    }

    private static void undo() {
        SameKeeper x = Calls.locked("lock 2 from 3;does mood+1;");
        x.set(0, 0, 4);
        x.mute(1, 1);
        x.go();
        x.chance(2);
        is("34: four acts", x.has(6), 4);
        is("34: chance", x.undo(), true);
        is("34: the week", x.has(1), 1);
        is("34: the mood", x.has(2), 5);
        is("34: kept", x.has(4), 1);
        is("34: the barge", x.day(0, 0), 4);
        is("34: go", x.undo(), true);
        is("34: the mood", x.has(2), 3);
        is("34: not kept", x.kept(0, 0), NOTHING);
        is("34: mute", x.undo(), true);
        is("34: not mute", x.has(3), 0);
        is("34: set", x.undo(), true);
        is("34: the barge", x.day(0, 0), 0);
        is("34: nothing more", x.undo(), false);
        is("34: refused", x.status(4), 1);
        for (int n = 0; n < 25; n++) {
            x.set(0, 0, n % 9 + 1);
        }
        is("34: twenty at most", x.has(6), 20);
        for (int n = 23; n >= 4; n--) {
            is("34: one of twenty", x.undo(), true);
            is("34: as it was then", x.day(0, 0), n % 9 + 1);
        }
        is("34: no more", x.undo(), false);
        is("34: five stay", x.day(0, 0), 5);
        SameKeeper y = Calls.locked("lock 2 from 3;");
        SameKeeper z = Calls.locked("lock 2 from 3;");
        y.chance(1);
        y.undo();
        y.chance(1);
        z.chance(1);
        z.chance(1);
        is("34: the seed is not undone", y.day(0, 0) * 10 + y.day(1, 0), z.day(0, 0) * 10 + z.day(1, 0));
    }

    private static void seed() {
        SameKeeper x = Calls.locked("lock 2 from 0;");
        SameKeeper y = Calls.locked("lock 2 from 0;");
        is("35: seed", x.seed(1), true);
        x.chance(3);
        y.chance(3);
        is("35: 1 at first", x.has(2), y.has(2));
        is("35: the greatest", x.seed(Integer.MAX_VALUE), true);
        is("35: 0", x.seed(0), true);
        is("35: below", x.seed(-1), false);
        is("35: least", x.seed(Integer.MIN_VALUE), false);
        is("35: refused", x.status(5), 2);
        x.chance(1);
        is("35: drawn from 0", x.day(0, 0), (1103515245L * 12345 + 12345) % (1L << 31) / 64 % 10);
        is("35: no act", y.has(6), 1);
    }

    private static void ask() {
        SameKeeper x = Calls.locked("lock 4 from 2;barge 1 3;barge 3 3;wet 2 5;mute 3;");
        question(x, "first barge = 3", 1);
        question(x, "last barge = 3", 3);
        question(x, "first barge > 3", -1);
        question(x, "last barge > 3", -1);
        question(x, "often barge = 3", 2);
        question(x, "often barge = 9", 0);
        question(x, "often all", 4);
        question(x, "often not all", 0);
        question(x, "first mute = 1", 3);
        question(x, "total number", 6);
        question(x, "total number*number-wet", 9);
        question(x, "most wet", 5);
        question(x, "least 0-wet", -5);
        question(x, "most 0-1", -1);
        question(x, "least 7", 7);
        question(x, "total first", 0);
        question(x, "total weeks 0", 1300);
        question(x, "most weeks 4", 100);
        question(x, "total weeks 10", 0);
        question(x, "total weeks (0-1)", 0);
        question(x, "total weeks number", 300);
        question(x, "total weeks number*2", 600);
        question(x, "total weeks 9 + 1", 304);
        question(x, "total week", 0);
        question(x, "often wet=5 or barge=3 and number<2", 2);
        question(x, "often [wet=5 or barge=3] and number<2", 1);
        question(x, "often not wet=5 and not barge=3", 1);
        question(x, "often not [wet=5 and barge=3]", 4);
        question(x, "often not not wet=5", 1);
        question(x, "often min(wet,barge)<max(1,number)", 4);
        question(x, "often max(wet,barge)<max(2,number)", 1);
        question(x, "total 9999*9999", 4000000);
        question(x, "most 9999*9999+1-1", 999999);
        question(x, "total number/0", 0);
        question(x, "least (0-number)/2", -2);
        SameKeeper nine = Calls.locked("lock 9 from 0;");
        question(nine, "most weeks 3", 100000000L);
        question(nine, "total weeks 3", 900000000L);
        question(nine, "most weeks 3+0", 1000000);
        question(nine, "most weeks 3/1", 100000000L);
        question(nine, "most max(weeks 3,1)", 100000000L);
        SameKeeper none = Calls.locked("lock 2 from 0;does told+1;");
        question(none, "total first", -2);
        question(none, "total weeks 0", 0);
        SameKeeper later = Calls.locked("lock 2 from 0;does mood+1;");
        later.go();
        question(later, "most week", 1);
        question(later, "last first=4", 1);
    }

    private static void question(SameKeeper x, String text, long want) {
        is("36: " + text, Calls.ask(x, text), want);
        is("36: no fault in " + text, x.fault(0), 0);
    }

    private static void image() {
        SameKeeper x = Calls.locked("lock 2 from 7;barge 0 3;wet 1 4;mute 1;");
        is("38: ahead of any", x.octet(0), -1);
        is("37: length", x.image(), 10);
        int[] want = image(0, 0, 7, 3, 0, 0, 0, 4, 1);
        for (int k = 0; k < 10; k++) {
            is("37: byte " + k, x.octet(k), want[k]);
        }
        is("38: beyond", x.octet(10), -1);
        is("38: below", x.octet(-1), -1);
        x.set(0, 0, 9);
        is("38: of the latest image()", x.octet(3), 3);
        x.image();
        is("38: of a later one", x.octet(3), 9);
        Calls.on(x, image(3, 231, 1, 0, 0, 0, 0, 0, 0));
        x.image();
        is("37: the higher byte first", x.octet(0), 3);
        is("37: the lower one", x.octet(1), 231);
        is("37: nine days", Calls.locked("lock 9 from 0;").image(), 31);
        SameKeeper y = Calls.locked("lock 9 from 0;");
        y.image();
        is("38: the last of nine days", y.octet(30) >= 0, true);
        is("38: beyond nine days", y.octet(31), -1);
    }

    private static void on() {
        SameKeeper x = Calls.locked("lock 2 from 7;");
        x.go();
        x.set(0, 0, 1);
        Calls.hear(x, 1, 4);
        x.mute(1, 1);
        is("39: on", Calls.on(x, image(3, 231, 9, 9, 8, 1, 0, 9, 0)), true);
        is("39: week", x.has(1), 999);
        is("39: mood", x.has(2), 9);
        is("39: barge", x.day(0, 0), 9);
        is("39: wet", x.day(0, 1), 8);
        is("39: mute", x.day(0, 2), 1);
        is("39: wet of the other", x.day(1, 1), 9);
        is("39: not mute", x.day(1, 2), 0);
        is("39: nothing kept", x.has(4), 0);
        is("39: nothing can be undone", x.has(6), 0);
        is("39: what is heard stays", x.has(5), 1);
        wrongImage(x, "week", image(3, 232, 9, 9, 8, 1, 0, 9, 0));
        wrongImage(x, "mood", image(0, 0, 10, 9, 8, 1, 0, 9, 0));
        wrongImage(x, "barge", image(0, 0, 9, 10, 8, 1, 0, 9, 0));
        wrongImage(x, "wet", image(0, 0, 9, 9, 8, 1, 0, 10, 0));
        wrongImage(x, "mute", image(0, 0, 9, 9, 8, 2, 0, 9, 0));
        wrongImage(x, "another lock", image(0, 0, 9, 9, 8, 1, 0, 9, 0, 0, 0, 0));
        wrongImage(x, "a day too few", image(0, 0, 9, 9, 8, 1));
        wrongImage(x, "a byte too many", java.util.Arrays.copyOf(image(0, 0, 9, 9, 8, 1, 0, 9, 0), 11));
        int[] check = image(0, 0, 9, 9, 8, 1, 0, 9, 0);
        check[9] = (check[9] + 1) % 256;
        wrongImage(x, "the last byte", check);
        wrongImage(x, "nothing");
        is("39: refused", x.status(5), 10);
        is("39: the tape goes", x.feed(0, 0, 0, 0, 0), 20);
        SameKeeper y = new SameKeeper();
        is("39: without a lock", Calls.on(y, image(0, 0, 0)), false);
        is("39: refused without a lock", y.status(5), 1);
        is("39: the tape goes without a lock", y.feed(0, 0, 0, 0, 0), 20);
    }

    private static void wrongImage(SameKeeper x, String what, int... bytes) {
        is("39: wrong " + what, Calls.on(x, bytes), false);
        is("39: all stays, " + what, x.has(1) * 1000 + x.has(2) * 100 + x.day(0, 0) * 10 + x.day(1, 1), 999999 + 0);
    }

    private static void status() {
        SameKeeper x = Calls.locked(FREE);
        x.end(-1);
        is("40: tape", x.status(0), 1);
        x.lock();
        x.hear();
        is("40: texts", x.status(1), 2);
        x.set(9, 0, 0);
        x.mute(9, 0);
        is("40: days", x.status(2), 2);
        x.chance(0);
        is("40: weeks", x.status(3), 1);
        x.undo();
        is("40: undo", x.status(4), 1);
        x.seed(-1);
        x.on();
        is("40: state", x.status(5), 2);
        x.ask();
        x.told(9, 9);
        x.later(-1);
        is("40: a question is not counted", x.status(1), 2);
        is("40: below", x.status(-1), -1);
        is("40: above", x.status(6), -1);
    }
}

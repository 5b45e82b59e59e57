/** Texts with faults, each with its fault and place; promises 4, 5 and 36. */
public final class FaultTest {
    private static final Due DUE = new Due();
    private static final String HEAD = "lock 3 from 1;";

    public static void main(String[] args) {
        openings();
        statements();
        sums();
        tooMany();
        tooDeep();
        questions();
        deepQuestions();
        stays();
        DUE.end();
    }

    private static void lock(String text, int kind, int place) {
        SameKeeper x = new SameKeeper();
        int answer = Calls.lock(x, text);
        DUE.is("lock " + text, answer == SameKeeper.NONE, kind != 0);
        DUE.is("fault(0) of " + text, x.fault(0), kind);
        DUE.is("fault(1) of " + text, x.fault(1), place);
        DUE.is("status(1) of " + text, x.status(1), kind == 0 ? 0 : 1);
        DUE.is("the tape is gone", x.feed(0, 0, 0, 0, 0), 20);
    }

    /** A statement behind the head; the place is told from the statement's first byte on. */
    private static void behind(String statement, int kind, int place) {
        lock(HEAD + statement, kind, kind == 0 ? SameKeeper.NONE : HEAD.length() + place);
    }

    private static void ask(String text, int kind, int place) {
        SameKeeper x = Calls.locked(HEAD);
        long answer = Calls.ask(x, text);
        DUE.is("ask " + text, answer == SameKeeper.NOTHING, kind != 0);
        DUE.is("fault(0) of " + text, x.fault(0), kind);
        DUE.is("fault(1) of " + text, x.fault(1), place);
        DUE.is("a fault of ask is not refused", x.status(1), 0);
        DUE.is("the tape is gone", x.feed(0, 0, 0, 0, 0), 20);
    }

    private static void openings() {
        lock("", 1, 0);
        lock("  \n ", 1, 4);
        lock(";", 1, 0);
        lock("rain 3;", 1, 0);
        lock(" barge 0 1;", 1, 1);
        lock("loc", 1, 0);
        lock("lockk 3 from 1;", 1, 0);
        lock("lockfromlockfrom 3 from 1;", 1, 0);
        lock("lockz 3 from 1;", 1, 0);
        lock("zlock 3 from 1;", 1, 0);
        lock("Lock 3 from 1;", 1, 0);
        lock("lock", 1, 4);
        lock("lock  ", 1, 6);
        lock("lock3 from 1;", 1, 4);
        lock("lock ;", 1, 5);
        lock("lock x", 1, 5);
        lock("lock 1 from 1;", 2, 5);
        lock("lock 0", 2, 5);
        lock("lock 10 from 1;", 2, 5);
        lock("lock 2 from 1;", 0, -1);
        lock("lock 9 from 9;", 0, -1);
        lock("lock 0009 from 0;", 0, -1);
        lock("lock 00009 from 0;", 1, 9);
        lock("lock 3from 1;", 1, 6);
        lock("lock 3 form 1;", 1, 7);
        lock("lock 3 from1;", 1, 11);
        lock("lock 3 from -1;", 1, 12);
        lock("lock 3 from 10;", 2, 12);
        lock("lock 3 from 1", 1, 13);
        lock("lock 3 from 1 ", 1, 14);
        lock("lock 3 from 1 2;", 1, 14);
        lock("lock 3 from 1.", 1, 13);
        lock("lock\t3 from 1;", 1, 4);
        lock("\n lock\n3\nfrom\n1\n;\n ", 0, -1);
    }

    private static void statements() {
        behind("lock 3 from 1;", 1, 0);
        behind(";", 1, 0);
        behind(" ", 0, -1);
        behind("mood;", 1, 0);
        behind("barge 2 9;", 0, -1);
        behind("barge 3 9;", 2, 6);
        behind("barge 2 10;", 2, 8);
        behind("barge 2;", 1, 7);
        behind("barge 2 1", 1, 9);
        behind("barge;", 1, 5);
        behind("barge0 1;", 1, 5);
        behind("barge 01;", 1, 8);
        behind("wet 2 9;", 0, -1);
        behind("wet 3 0;", 2, 4);
        behind("wet 0 10;", 2, 6);
        behind("wet 0 12345;", 1, 10);
        behind("mute 2;", 0, -1);
        behind("mute 3;", 2, 5);
        behind("mute 1;mute 1;", 2, 12);
        behind("mute 1;mute   1", 2, 14);
        behind("mute 1;mute 00001;", 1, 16);
        behind("mute 1 2;", 1, 7);
        behind("rain 0;", 0, -1);
        behind("rain 100;", 0, -1);
        behind("rain 101;", 2, 5);
        behind("rain 10000;", 1, 9);
        behind("rain 1;rain 2;", 0, -1);
        behind("rain" + (char) 228 + ";", 1, 4);
        behind("rain" + (char) 0 + ";", 1, 4);
    }

    private static void sums() {
        behind("says;", 1, 4);
        behind("says 9999;", 0, -1);
        behind("says 12345;", 1, 9);
        behind("says mood+barge*wet/day-week;", 0, -1);
        behind("says told;", 1, 5);
        behind("says alone;", 1, 5);
        behind("wage told;", 1, 5);
        behind("wage mood+alone;", 1, 10);
        behind("does told+alone;", 0, -1);
        behind("does number;", 1, 5);
        behind("does weeks 1;", 1, 5);
        behind("does mute;", 1, 5);
        behind("says first;", 1, 5);
        behind("says -1;", 1, 5);
        behind("says 1 1;", 1, 7);
        behind("says 1mood;", 1, 6);
        behind("says mood1;", 1, 9);
        behind("saysmood;", 1, 0);
        behind("says(mood);", 0, -1);
        behind("says 1+;", 1, 7);
        behind("says 1+", 1, 7);
        behind("says (1;", 1, 7);
        behind("says 1);", 1, 6);
        behind("says min(1,2);", 0, -1);
        behind("says max ( 1 , 2 ) ;", 0, -1);
        behind("says min 1;", 1, 9);
        behind("says min(1);", 1, 10);
        behind("says max(1,2,3);", 1, 12);
        behind("says moods;", 1, 5);
        behind("says 1 < 2;", 1, 7);
        behind("says [1];", 1, 5);
    }

    private static void tooMany() {
        behind("says 1;says 1;", 5, 7);
        behind("says 1; says", 5, 8);
        behind("does 1;says 1;does", 5, 14);
        behind("wage 1;rain 1;wage x", 5, 14);
        String full = HEAD + "rain 1;".repeat(59);
        SameKeeper x = new SameKeeper();
        DUE.is("sixty statements", Calls.lock(x, full), 60);
        lock(full + " \n ", 0, -1);
        lock(full + " rain 1;", 5, full.length() + 1);
        lock(full + "?", 5, full.length());
        lock(full + "lock", 5, full.length());
        lock(full + "1", 5, full.length());
        lock(HEAD + "rain 1;".repeat(58) + "?", 1, HEAD.length() + 7 * 58);
    }

    private static void tooDeep() {
        behind("says ((((((1))))));", 0, -1);
        behind("says (((((((1)))))));", 4, 11);
        behind("says (((((((", 4, 11);
        behind("says ((((((1))))))+((((((1))))));", 0, -1);
        behind("does min(1,max(1,min(1,max(1,min(1,max(1,2))))));", 0, -1);
        behind("does min(1,max(1,min(1,max(1,min(1,max(1,(2)))))));", 4, 41);
        behind("does min(((((((1", 4, 14);
        behind("does ((((((min (1,1)", 4, 15);
        SameKeeper x = new SameKeeper();
        Calls.lock(x, HEAD + "says ((((");
        DUE.is("what a fault left open is shut", Calls.lock(x, HEAD + "says ((((((1))))));"), 2);
    }

    private static void questions() {
        ask("", 1, 0);
        ask("  ", 1, 2);
        ask("all", 1, 0);
        ask("count all", 1, 0);
        ask("firsts all", 1, 0);
        ask("first", 1, 5);
        ask("first all", 0, -1);
        ask("often all;", 1, 9);
        ask("often all all", 1, 10);
        ask("often all and", 1, 13);
        ask("often all or or", 1, 13);
        ask("often 1", 1, 7);
        ask("often 1<", 1, 8);
        ask("often 1<2<3", 1, 9);
        ask("often 1 2", 1, 8);
        ask("often1<2", 1, 5);
        ask("often 1<2or all", 1, 9);
        ask("often 1<2 or all", 0, -1);
        ask("often [all", 1, 10);
        ask("often [all)", 1, 10);
        ask("often [1]", 1, 8);
        ask("often (all)", 1, 7);
        ask("often (1)=1", 0, -1);
        ask("often [ [ all ] ]", 0, -1);
        ask("often not", 1, 9);
        ask("often notall", 1, 6);
        ask("often not[all]", 0, -1);
        ask("often all=1", 1, 9);
        ask("total all", 1, 6);
        ask("total 1<2", 1, 7);
        ask("total mood", 1, 6);
        ask("total day", 1, 6);
        ask("total told", 1, 6);
        ask("total weeks", 1, 11);
        ask("total weeks1", 1, 11);
        ask("total weeks(1)", 0, -1);
        ask("total weeks 1 2", 1, 14);
        ask("total weeks weeks 1", 0, -1);
        ask("total week", 0, -1);
        ask("total number+barge-wet*mute/first", 0, -1);
        ask("total 12345", 1, 10);
        ask("most min(1,2)", 0, -1);
        ask("least max(1 2)", 1, 12);
        ask("last unknown>1", 1, 5);
    }

    private static void deepQuestions() {
        ask("often not not not not not not all", 0, -1);
        ask("often not not not not not not not all", 4, 30);
        ask("often [[[[[[all]]]]]]", 0, -1);
        ask("often [[[[[[[all]]]]]]]", 4, 12);
        ask("total weeks weeks weeks weeks weeks weeks 1", 0, -1);
        ask("total weeks weeks weeks weeks weeks weeks weeks 1", 4, 42);
        ask("often not [ not [ weeks ( 1 ) > 0 ] ]", 0, -1);
        ask("often not [ not [ weeks ( ( 1 ) ) > 0 ] ]", 4, 26);
        ask("often not [ not [ weeks ( weeks 1 ) > 0 ] ]", 4, 26);
        ask("often not all and not all and not all and not all and not all and not all and not all", 0, -1);
        ask("total weeks 1+weeks 1+weeks 1+weeks 1+weeks 1+weeks 1+weeks 1", 0, -1);
        ask("total ((((((weeks 1))))))", 4, 12);
        ask("total (((((weeks 1)))))", 0, -1);
        ask("often not not not not not not 1 = (1)", 4, 34);
        ask("often not not not not not 1 = (1)", 0, -1);
    }

    private static void stays() {
        SameKeeper x = Calls.locked("lock 2 from 3;barge 0 4;");
        x.set(1, 1, 7);
        Calls.hear(x, 0, 3);
        DUE.is("a lock with a fault", Calls.lock(x, "lock 5 from 1;barge 0 1;mute 9;"), -1);
        DUE.is("the days stay", x.has(0), 2);
        DUE.is("the mood stays", x.has(2), 3);
        DUE.is("the barge stays", x.day(0, 0), 4);
        DUE.is("the wet stays", x.day(1, 1), 7);
        DUE.is("what was heard stays", x.has(5), 1);
        DUE.is("what can be undone stays", x.has(6), 1);
        DUE.is("the fault", x.fault(0), 2);
        DUE.is("ask", Calls.ask(x, "often all"), 2);
        DUE.is("no fault any more", x.fault(0), 0);
        DUE.is("no place any more", x.fault(1), -1);
        Calls.ask(x, "often");
        DUE.is("a fault of ask", x.fault(0), 1);
        DUE.is("its place", x.fault(1), 5);
        DUE.is("fault(2)", x.fault(2), -1);
        DUE.is("fault(-1)", x.fault(-1), -1);
        SameKeeper y = new SameKeeper();
        Calls.lock(y, "lock 1");
        DUE.is("ask without a lock", Calls.ask(y, "often all"), SameKeeper.NOTHING);
        DUE.is("it does nothing else", y.fault(0), 2);
        DUE.is("the place stays, too", y.fault(1), 5);
        DUE.is("but the tape goes", y.feed(0, 0, 0, 0, 0), 20);
    }
}

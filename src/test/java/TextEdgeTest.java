/** The edges that the document names for texts: terms I and IV, promises 4, 5 and 36. */
public final class TextEdgeTest {
    private static final Sentences S = new Sentences();
    private static final int TERMS = Sentences.TERMS;
    private static final long NOTHING = SameKeeper.NOTHING;
    private static final String HEAD = "lock 3 from 1;";
    private static final int AT = HEAD.length();

    public static void main(String[] args) {
        openings();
        amounts();
        muteDays();
        oneEach();
        rains();
        numbers();
        partsOfDoes();
        fromTheLeft();
        bounds();
        withoutSums();
        blanks();
        unknownWords();
        nearWords();
        wholeNumbers();
        endsTooSoon();
        numbersThatCannotBe();
        tooDeep();
        tooMany();
        firstAlong();
        signs();
        questionParts();
        questionFaults();
        questionDepth();
        locks();
        faults();
        asks();
        S.end(TERMS, 4, 5, 36);
    }

    /** What a sum gives, out of a wage that is paid on each of two days. */
    private static long valueOf(String sum) {
        return Calls.locked("lock 2 from 0;wage " + sum + ";").pay() / 2;
    }

    private static void value(String sum, long want) {
        S.is("wage " + sum, valueOf(sum), want);
        SameKeeper x = Calls.locked("lock 2 from 0;");
        S.is("most " + sum, Calls.ask(x, "most " + sum), want);
    }

    private static void openings() {
        S.of(TERMS, "2 .. 9 DAYS");
        for (int days = 2; days <= 9; days++) {
            S.is("days", Calls.locked("lock " + days + " from 0;").has(0), days);
        }
        S.lockFault("lock 0 from 0;", 2, 5);
        S.lockFault("lock 1 from 0;", 2, 5);
        S.lockFault("lock 10 from 0;", 2, 5);
        S.lockFault("lock 9999 from 0;", 2, 5);
        S.of(TERMS, "0 .. 9 the MOOD he begins in");
        for (int mood = 0; mood <= 9; mood++) {
            S.is("mood", Calls.locked("lock 2 from " + mood + ";").has(2), mood);
        }
        S.lockFault("lock 2 from 10;", 2, 12);
        S.lockFault("lock 2 from 9999;", 2, 12);
        S.of(TERMS, "the first STATEMENT, and it alone");
        S.lockFault("barge 0 1;lock 3 from 1;", 1, 0);
        S.lockFault(" rain 1;lock 3 from 1;", 1, 1);
        S.lockFault(HEAD + "lock 3 from 1;", 1, AT);
        S.lockFault(HEAD + "rain 1;lock", 1, AT + 7);
        S.of(TERMS, "A LOCK is a text: { STATEMENT ; }");
        S.lockFault(";", 1, 0);
        S.lockFault(HEAD + ";", 1, AT);
        S.lockFault(HEAD + "rain 1;;", 1, AT + 7);
        S.lockFault(HEAD + "rain 1", 1, AT + 6);
        S.lockFault(HEAD + "rain 1 rain 1;", 1, AT + 7);
    }

    private static void amounts() {
        S.of(TERMS, "a DAY from 0 on, 0 .. 9; the last one of a DAY counts, 0 without");
        for (String name : new String[] {"barge", "wet"}) {
            int what = name.equals("barge") ? 0 : 1;
            int at = AT + name.length() + 1;
            SameKeeper x = Calls.locked(HEAD + name + " 0 9;" + name + " 2 0;" + name + " 0 3;" + name + " 2 9;");
            S.is(name + ", the last one counts", x.day(0, what), 3);
            S.is(name + ", 9 of the last day", x.day(2, what), 9);
            S.is(name + ", 0 without", x.day(1, what), 0);
            S.is("of the other nothing", x.day(0, 1 - what) + x.day(1, 1 - what) + x.day(2, 1 - what), 0);
            S.is(name + ", 0 is the last one", Calls.locked(HEAD + name + " 0 9;" + name + " 0 0;").day(0, what), 0);
            S.lockFault(HEAD + name + " 3 0;", 2, at);
            S.lockFault(HEAD + name + " 9999 0;", 2, at);
            S.lockFault(HEAD + name + " 2 10;", 2, at + 2);
            S.lockFault(HEAD + name + " 2 9999;", 2, at + 2);
            S.lockHolds("lock 9 from 0;" + name + " 8 9;");
            S.lockFault("lock 9 from 0;" + name + " 9 9;", 2, at);
            S.lockFault("lock 2 from 0;" + name + " 2 9;", 2, at);
        }
    }

    private static void muteDays() {
        S.of(TERMS, "a DAY, not told so already");
        S.is("each day once", Calls.locked("lock 9 from 0;mute 8;mute 0;mute 1;mute 2;mute 3;mute 4;mute 5;mute 6;mute 7;").has(3), 9);
        S.lockFault(HEAD + "mute 3;", 2, AT + 5);
        S.lockFault(HEAD + "mute 9999;", 2, AT + 5);
        S.lockFault(HEAD + "mute 0;mute 0;", 2, AT + 12);
        S.lockFault(HEAD + "mute 2;mute 1;mute  2;", 2, AT + 20);
        S.lockFault(HEAD + "mute 2;mute 0002;", 2, AT + 12);
        S.lockHolds(HEAD + "mute 2;mute 1;mute 0;");
    }

    private static void oneEach() {
        S.of(TERMS, "says SUM, does SUM, wage SUM (one each)");
        S.is("all three", Calls.lock(new SameKeeper(), HEAD + "wage 1;does 1;says 1;"), 4);
        for (String name : new String[] {"says", "does", "wage"}) {
            S.lockFault(HEAD + name + " 1;" + name + " 1;", 5, AT + 7);
            S.lockFault(HEAD + name + " 1;rain 1; " + name, 5, AT + 15);
        }
        S.lockFault(HEAD + "says 1;does 2;wage 3;says 4;", 5, AT + 21);
        S.lockFault(HEAD + "says 1;does 2;wage 3;wage 4;", 5, AT + 21);
    }

    private static int wetBy(String rains) {
        SameKeeper x = Calls.locked("lock 9 from 0;" + rains);
        x.chance(1);
        int wet = 0;
        for (int d = 0; d < 9; d++) {
            wet += x.day(d, 1);
        }
        return wet;
    }

    private static void rains() {
        S.of(TERMS, "0 .. 100; the last one counts, 0 without");
        S.is("without", wetBy(""), 0);
        S.is("rain 0", wetBy("rain 0;"), 0);
        S.is("rain 100", wetBy("rain 100;"), 9);
        S.is("the last one is 0", wetBy("rain 100;rain 0;"), 0);
        S.is("the last one is 100", wetBy("rain 0;rain 100;"), 9);
        S.lockFault(HEAD + "rain 101;", 2, AT + 5);
        S.lockFault(HEAD + "rain 9999;", 2, AT + 5);
        S.lockFault(HEAD + "rain 1;rain 101;", 2, AT + 12);
    }

    private static void numbers() {
        S.of(TERMS, "N (1 to 4 digits)");
        value("0", 0);
        value("7", 7);
        value("10", 10);
        value("999", 999);
        value("9999", 9999);
        value("0000", 0);
        value("0012", 12);
        S.lockFault(HEAD + "wage 10000;", 1, AT + 9);
        S.lockFault(HEAD + "wage 00000;", 1, AT + 9);
        S.lockFault(HEAD + "wage ;", 1, AT + 5);
    }

    private static void partsOfDoes() {
        S.of(TERMS, "in does: told; alone.");
        S.lockHolds(HEAD + "does told+alone;");
        S.lockFault(HEAD + "says told;", 1, AT + 5);
        S.lockFault(HEAD + "says alone;", 1, AT + 5);
        S.lockFault(HEAD + "wage told;", 1, AT + 5);
        S.lockFault(HEAD + "wage alone;", 1, AT + 5);
        S.lockFault(HEAD + "wage 1+told;", 1, AT + 7);
        for (String other : new String[] {"number", "mute", "first", "weeks 1", "all", "not", "rain", "lock", "says"}) {
            S.lockFault(HEAD + "does " + other + ";", 1, AT + 5);
        }
        S.of(TERMS, "1 if nobody relieves him, else 0");
        SameKeeper x = Calls.locked("lock 2 from 0;mute 1;does alone*7+1;");
        S.is("he is relieved", x.does(0, 0, 0), 1);
        S.is("nobody relieves him", x.does(1, 0, 0), 8);
        S.of(TERMS, "In says, wage the MOOD of a DAY at its end, the barge, wet, number of that DAY");
        SameKeeper y = Calls.locked("lock 3 from 9;barge 2 3;wet 1 4;says mood+barge+wet*2+day*3;");
        S.is("says of day 0", y.told(0, 5), 5);
        S.is("says of day 1", y.told(1, 5), 6);
        S.is("says of day 2", y.told(2, 5), 4);
        SameKeeper paid = Calls.locked("lock 3 from 9;barge 2 3;wet 2 4;does 5;wage mood*1000+barge*100+wet*10+day;");
        S.is("wage", paid.pay(), 15343);
        S.of(TERMS, "in does the MOOD of the DAY ahead, the barge, wet, number of the DAY itself; the WEEK");
        SameKeeper z = Calls.locked("lock 3 from 9;barge 0 3;barge 2 1;wet 1 4;wet 2 2;does mood+barge*2+wet*3+day+week;");
        S.is("day 0", z.does(0, 6, 0), 2);
        S.is("day 1", z.does(1, 6, 0), 9);
        S.is("day 2", z.does(2, 6, 0), 6);
        z.go();
        S.is("a week later", z.does(2, 6, 0), 7);
    }

    private static void fromTheLeft() {
        S.of(TERMS, "All from the left on");
        value("20-3-4", 13);
        value("20-3+4", 21);
        value("7/2*2", 6);
        value("2*7/4", 3);
        value("100/10/5", 2);
        value("2+3*4", 14);
        value("2*3+4*5", 26);
        value("(2+3)*4", 20);
        S.of(TERMS, "/ gives the greatest whole number not above");
        value("7/2", 3);
        value("8/2", 4);
        value("(0-7)/2", -4);
        value("(0-8)/2", -4);
        value("7/(0-2)", -4);
        value("(0-7)/(0-2)", 3);
        value("(0-1)/9999", -1);
        value("1/9999", 0);
        value("0/(0-5)", 0);
        S.of(TERMS, "by 0 it gives 0");
        value("9/0", 0);
        value("0/0", 0);
        value("(0-9)/0", 0);
        value("9/0+5", 5);
        value("9/(3-3)*2+1", 1);
        S.of(TERMS, "min ( SUM , SUM ) ; max ( SUM , SUM )");
        value("min(3,4)", 3);
        value("min(4,3)", 3);
        value("min(3,3)", 3);
        value("max(3,4)", 4);
        value("max(4,3)", 4);
        value("min(0-3,3)", -3);
        value("max(0-3,0-4)", -3);
        value("min(1+1,3)*max(2,1*1)", 4);
    }

    private static void bounds() {
        S.of(TERMS, "each sum, difference, product above 10 to the 6 is that, below -10 to the 6 likewise");
        value("1000*1000", 1000000);
        value("999*1001", 999999);
        value("1000*1000-1", 999999);
        value("1000*999+1000", 1000000);
        value("1000*999+1001", 1000000);
        value("1000*999+1001-1", 999999);
        value("1000*1000+1-1", 999999);
        value("1001*1000-1", 999999);
        value("9999*9999*9999", 1000000);
        value("9999*9999-9999", 990001);
        value("9999*9999/1000", 1000);
        value("0-1000*1000", -1000000);
        value("0-1000*1000+1", -999999);
        value("0-1000*999-1001", -1000000);
        value("0-1000*999-1001+1", -999999);
        value("0-1000*1000-1+1", -999999);
        value("(0-1001)*1000+1", -999999);
        value("(0-1000)*1000+0", -1000000);
        value("(0-9999)*9999*9999", -1000000);
        value("(0-9999)*9999*((0-9999)*9999)", 1000000);
        value("9999*9999*(0-1)", -1000000);
        value("9999*9999+9999*9999-9999*9999", 0);
        value("1000*1000-(0-1000)", 1000000);
        value("1000*1000-(0-1000)-1", 999999);
        value("min(9999*9999,9999*9999)", 1000000);
    }

    private static void withoutSums() {
        S.of(TERMS, "Without: says is mood, does is told, wage is mood");
        SameKeeper x = Calls.locked("lock 2 from 0;barge 0 1;wet 0 2;");
        for (int m = 0; m <= 9; m++) {
            S.is("says", x.told(0, m), m);
            S.is("does", x.does(0, 9 - m, m), m);
        }
        S.is("wage", x.pay(), 18);
        S.is("wage beside the others", Calls.locked("lock 2 from 0;says 1;does 4;").pay(), 8);
    }

    private static void blanks() {
        S.of(TERMS, "Blanks (10, 32) are where one likes");
        S.lockHolds("\n \nlock\n\n2  from\n0 \n;\n \nsays ( mood\n+ 1 )\n* 2 ;\nrain\n5;\n\n");
        S.lockHolds("lock 2 from 0;says(mood+1)*2;does min(told,max(1,2));mute 1;mute 0;");
        for (int b = 0; b < 256; b++) {
            if (b != 10 && b != 32 && !Character.isLetterOrDigit(b)) {
                S.lockFault("lock" + (char) b + "2 from 0;", 1, 4);
            }
        }
        for (int b : new int[] {0, 9, 11, 13, 95, 160, 255}) {
            S.lockFault((char) b + "lock 2 from 0;", 1, 0);
            S.lockFault("lock 2 from 0;" + (char) b, 1, 14);
        }
        S.lockFault("lo ck 2 from 0;", 1, 0);
        S.lockFault("lock 2 from 0 0;", 1, 14);
        S.of(TERMS, "words and numbers side by side need one");
        S.lockFault("lock2 from 0;", 1, 4);
        S.lockFault("lock 2from 0;", 1, 6);
        S.lockFault("lock 2 from0;", 1, 11);
        S.lockFault("lockfrom 2 from 0;", 1, 0);
        S.lockFault(HEAD + "barge 01;", 1, AT + 8);
        S.lockFault(HEAD + "mute0;", 1, AT + 4);
        S.lockFault(HEAD + "says1;", 1, AT + 4);
        S.lockFault(HEAD + "wage 2mood;", 1, AT + 6);
        S.lockFault(HEAD + "wage mood2;", 1, AT + 9);
    }

    private static void unknownWords() {
        S.of(TERMS, "words, of any length, and numbers whole, at their first byte");
        S.lockFault("l", 1, 0);
        S.lockFault("loc 2", 1, 0);
        S.lockFault("locks 2", 1, 0);
        S.lockFault("clock 2", 1, 0);
        S.lockFault("lock".repeat(400), 1, 0);
        S.lockFault("lockz 2 from 0;", 1, 0);
        S.lockFault("locka 2 from 0;", 1, 0);
        S.lockFault("lock 2 fro 0;", 1, 7);
        S.lockFault("lock 2 fromm 0;", 1, 7);
        S.lockFault("lock 2 from zero;", 1, 12);
        S.lockFault(HEAD + "numberx", 1, AT);
        S.lockFault(HEAD + "wage moods;", 1, AT + 5);
        S.lockFault(HEAD + "wage " + "z".repeat(1600 - AT - 5), 1, AT + 5);
        S.lockFault(HEAD + "wage 1 mood;", 1, AT + 7);
        S.lockFault("2 lock from 0;", 1, 0);
        S.lockFault("12345 lock from 0;", 1, 0);
        S.lockFault(HEAD + "12345;", 1, AT);
        S.lockFault(HEAD + "wage 1 12345;", 1, AT + 7);
        S.lockFault(HEAD + "barge 1 2 12345;", 1, AT + 10);
    }

    /** A word with another letter, one letter more or one fewer is none. */
    private static void nearWords() {
        S.of(TERMS, "WORDS: lock, from, barge, wet, mute, says, does, wage, rain, mood, day, week, told, alone, number, first, weeks, or, and, not, all, min, max");
        String all = "lock 2 from 0;barge 0 1;wet 0 1;mute 0;says mood+day+week;does told+alone;wage min(1,2)+max(1,2);rain 3;";
        S.lockHolds(all);
        String test = "often number+first+mute+barge+wet>week or weeks 1=2 and not all";
        S.questionFault(Calls.locked(HEAD), test, 0, -1);
        for (String verb : new String[] {"first all", "last all", "total 1", "most 1", "least 1"}) {
            S.questionFault(Calls.locked(HEAD), verb, 0, -1);
            nearWordsOf(verb, false);
        }
        nearWordsOf(all, true);
        nearWordsOf(test, false);
    }

    private static void nearWordsOf(String text, boolean isLock) {
        for (int at = 0; at < text.length(); at++) {
            if (!Character.isLetter(text.charAt(at))) {
                continue;
            }
            String[] near = {text.substring(0, at) + 'q' + text.substring(at + 1), text.substring(0, at) + text.substring(at + 1),
                text.substring(0, at) + 'z' + text.substring(at), text.substring(0, at + 1) + 'z' + text.substring(at + 1)};
            int from = at;
            while (from > 0 && Character.isLetter(text.charAt(from - 1))) {
                from--;
            }
            for (String other : near) {
                // two of the words are others with a letter fewer
                if (other.contains("week 1") || other.equals("last 1")) {
                    continue;
                }
                if (isLock) {
                    S.lockFault(other, 1, from);
                } else {
                    S.questionFault(Calls.locked(HEAD), other, 1, from);
                }
            }
        }
    }

    private static void wholeNumbers() {
        S.of(TERMS, "where a number is asked, a 5th digit at itself");
        S.lockHolds("lock 0002 from 0009;");
        S.lockFault("lock 00002 from 0;", 1, 9);
        S.lockFault("lock 2 from 00000;", 1, 16);
        S.lockFault(HEAD + "barge 00001 1;", 1, AT + 10);
        S.lockFault(HEAD + "barge 1 00001;", 1, AT + 12);
        S.lockFault(HEAD + "wet 00001 1;", 1, AT + 8);
        S.lockFault(HEAD + "wet 1 000000001;", 1, AT + 10);
        S.lockFault(HEAD + "mute 00001;", 1, AT + 9);
        S.lockFault(HEAD + "rain 00001;", 1, AT + 9);
        S.lockFault(HEAD + "wage 12345;", 1, AT + 9);
        S.lockFault(HEAD + "wage mood*12345;", 1, AT + 14);
        S.lockFault(HEAD + "wage " + "1".repeat(1600 - AT - 5), 1, AT + 9);
        S.questionFault(Calls.locked(HEAD), "total 12345", 1, 10);
    }

    /** Each beginning of a text that is good as a whole ends too soon, or inside a word. */
    private static void endsTooSoon() {
        S.of(TERMS, "at the text's length, if it ends too soon");
        String good = "lock 3 from 1; barge 0 2;wet 2 3; says min(mood, 3)*(wet+1)/2 - day;does (told);mute 1 ; rain 77;";
        S.lockHolds(good);
        for (int cut = 0; cut < good.length(); cut++) {
            String begun = good.substring(0, cut);
            boolean whole = begun.trim().endsWith(";");
            S.lockFault(begun, whole ? 0 : 1, whole ? -1 : placeOfEnd(good, cut));
            if (!whole && placeOfEnd(good, cut) == cut) {
                S.lockFault(begun + "\n ", 1, cut + 2);
            }
        }
        String question = " often not [ number<2 or (wet) = min ( first , 3 ) * 1 ] and all ";
        for (int cut = 0; cut < question.length(); cut++) {
            String begun = question.substring(0, cut);
            boolean whole = begun.trim().endsWith("]") || begun.trim().endsWith("all");
            S.questionFault(Calls.locked(HEAD), begun, whole ? 0 : 1, whole ? -1 : placeOfEnd(question, cut));
        }
        S.questionFault(Calls.locked(HEAD), "total weeks", 1, 11);
        S.questionFault(Calls.locked(HEAD), "total weeks ", 1, 12);
    }

    private static int placeOfEnd(String text, int cut) {
        int from = cut;
        if (cut < text.length() && Character.isLetter(text.charAt(cut))) {
            while (from > 0 && Character.isLetter(text.charAt(from - 1))) {
                from--;
            }
        }
        return from;
    }

    private static void numbersThatCannotBe() {
        S.of(TERMS, "a number that can't be (a DAY that is mute already, too), at it");
        S.lockFault("lock   1", 2, 7);
        S.lockFault("lock 10", 2, 5);
        S.lockFault("lock 2 from   10", 2, 14);
        S.lockFault(HEAD + "barge   3", 2, AT + 8);
        S.lockFault(HEAD + "barge 2  10", 2, AT + 9);
        S.lockFault(HEAD + "wet \n3", 2, AT + 5);
        S.lockFault(HEAD + "wet 2 \n10", 2, AT + 7);
        S.lockFault(HEAD + "rain  101", 2, AT + 6);
        S.lockFault(HEAD + "mute  3", 2, AT + 6);
        S.lockFault(HEAD + "mute 1;mute  1", 2, AT + 13);
    }

    private static void tooDeep() {
        S.of(TERMS, "the 7th ( that is open at once, at it");
        S.lockHolds(HEAD + "says ((((((1))))));");
        S.lockFault(HEAD + "says (((((((1)))))));", 4, AT + 11);
        S.lockFault(HEAD + "does ((( ((( (", 4, AT + 13);
        S.lockFault(HEAD + "wage (((((((", 4, AT + 11);
        S.lockHolds(HEAD + "says (((((1)+(1)))))+((((((1))))));does ((((((1))))));wage ((((((1))))));");
        S.lockHolds(HEAD + "says (((((1)+((1))))))+((((((1))))));");
        S.lockFault(HEAD + "says (((((1)+(((1)))))))+1;", 4, AT + 15);
        S.lockFault(HEAD + "says (((((1)+((1)))))+((((((1)))))));", 4, AT + 27);
        S.lockHolds(HEAD + "says min(1,min(1,min(1,min(1,min(1,max(1,1))))));");
        S.lockFault(HEAD + "says (((((max((1),1))))));", 4, AT + 14);
        S.lockFault(HEAD + "says (((((max(1,(1)))))));", 4, AT + 16);
        S.lockFault(HEAD + "says ((((((max (1,1)))))));", 4, AT + 15);
        S.lockFault(HEAD + "says ((((((1(", 1, AT + 12);
        S.lockFault(HEAD + "says ((((((max)", 1, AT + 14);
        SameKeeper x = new SameKeeper();
        Calls.lock(x, HEAD + "says ((((((1");
        S.is("what a fault left open is open no more", Calls.lock(x, HEAD + "says ((((((1))))));"), 2);
        Calls.ask(x, "often not not not not not not");
        S.is("nor in a question", Calls.ask(x, "often [[[[[[all]]]]]]"), 3);
    }

    private static void tooMany() {
        String full = HEAD + "rain 1;".repeat(59);
        S.of(TERMS, "(60 at most)");
        S.is("sixty", Calls.lock(new SameKeeper(), full), 60);
        S.is("fifty-nine", Calls.lock(new SameKeeper(), HEAD + "rain 1;".repeat(58)), 59);
        S.lockFault(full + "rain 1;", 5, full.length());
        S.of(TERMS, "a second says, does, wage, a 61st STATEMENT (whatever stands there), at its first byte");
        for (String there : new String[] {"rain 1;", "rain", ";", "?", "12345", "lock 3 from 1;", "nothing", "barge 9 9;"}) {
            S.lockFault(full + there, 5, full.length());
            S.lockFault(full + " \n " + there, 5, full.length() + 3);
        }
        S.lockHolds(full + " \n ");
        S.lockFault(HEAD + "rain 1;".repeat(58) + "?", 1, full.length() - 7);
        S.lockFault(HEAD + "rain 1;".repeat(58) + "rain 1", 1, full.length() - 1);
        S.lockFault(HEAD + "says 1;" + "rain 1;".repeat(58) + "says 1;", 5, full.length());
    }

    private static void firstAlong() {
        S.of(TERMS, "FAULTS, the first along the text");
        S.lockFault("lock 1 from 10;?", 2, 5);
        S.lockFault("lock 2 from 10;?", 2, 12);
        S.lockFault(HEAD + "barge 3 10;", 2, AT + 6);
        S.lockFault(HEAD + "barge 2 10?", 2, AT + 8);
        S.lockFault(HEAD + "rain 101 says (((((((", 2, AT + 5);
        S.lockFault(HEAD + "says ? (((((((1;says 1;", 1, AT + 5);
        S.lockFault(HEAD + "says (((((((?;says 1;", 4, AT + 11);
        S.lockFault(HEAD + "says 1;says (((((((?", 5, AT + 7);
        S.lockFault(HEAD + "mute 1;mute 1 says", 2, AT + 12);
        S.lockFault("?" + HEAD + "rain 1;".repeat(70), 1, 0);
        S.questionFault(Calls.locked(HEAD), "often ((((((( all", 4, 12);
        S.questionFault(Calls.locked(HEAD), "often ? (((((((", 1, 6);
    }

    private static void signs() {
        S.of(TERMS, "SUM SIGN SUM, SIGN < or > or = .");
        SameKeeper x = Calls.locked("lock 5 from 0;");
        S.is("below", Calls.ask(x, "often number<2"), 2);
        S.is("above", Calls.ask(x, "often number>2"), 2);
        S.is("like", Calls.ask(x, "often number=2"), 1);
        S.is("below, below 0", Calls.ask(x, "often 0-number<0-2"), 2);
        S.of(TERMS, "BOTH { or BOTH }. BOTH: FACT { and FACT }.");
        S.is("and binds", Calls.ask(x, "often number=0 or number=1 and number=2"), 1);
        S.is("brackets bind more", Calls.ask(x, "often [number=0 or number=1] and number<9"), 2);
        S.is("not binds most", Calls.ask(x, "often not number=0 and number<2"), 1);
        S.of(TERMS, "the first, the last DAY for which it holds");
        S.is("first", Calls.ask(x, "first all"), 0);
        S.is("last", Calls.ask(x, "last all"), 4);
        S.is("the last is the first", Calls.ask(x, "first number=4"), 4);
        S.is("the first is the last", Calls.ask(x, "last number=0"), 0);
        S.of(TERMS, "total SUM (of all together), most SUM, least SUM (the greatest, the least of all; 0 without DAYS)");
        S.is("total", Calls.ask(x, "total number"), 10);
        S.is("total above what a sum can be", Calls.ask(x, "total 1000*1000"), 5000000);
        S.is("total below what a sum can be", Calls.ask(x, "total 0-1000*1000"), -5000000);
        S.is("most below 0", Calls.ask(x, "most 0-number-1"), -1);
        S.is("least above 0", Calls.ask(x, "least number+1"), 1);
        S.is("most in the midst", Calls.ask(x, "most number*(4-number)"), 4);
        S.is("least in the midst", Calls.ask(x, "least (number-4)*number"), -4);
    }

    private static void questionParts() {
        SameKeeper x = Calls.locked("lock 3 from 7;mute 1;");
        S.of(TERMS, "PART: N; number; barge; wet; mute; first; week; weeks PART");
        SameKeeper y = Calls.locked("lock 3 from 7;barge 0 1;barge 2 2;wet 1 3;wet 2 4;does 5;");
        y.go();
        S.is("number", Calls.ask(y, "total number*number"), 5);
        S.is("barge", Calls.ask(y, "total barge*number"), 4);
        S.is("wet", Calls.ask(y, "total wet*number"), 11);
        S.is("week", Calls.ask(y, "total week"), 3);
        S.is("first", Calls.ask(y, "total first"), 15);
        S.is("weeks", Calls.ask(y, "total weeks 5"), 3);
        S.of(TERMS, "1 if it is mute, else 0");
        S.is("total mute", Calls.ask(x, "total mute"), 1);
        S.is("first mute", Calls.ask(x, "first mute=1"), 1);
        S.of(TERMS, "its MOOD in the first WEEK that AGREES, -1 if none does");
        SameKeeper none = Calls.locked("lock 3 from 7;mute 1;does told+1-alone;");
        S.is("least first", Calls.ask(none, "least first"), -1);
        S.is("most first", Calls.ask(none, "most first"), -1);
        SameKeeper one = Calls.locked("lock 3 from 7;does mood+1;");
        S.is("of day 0", Calls.ask(one, "first first=8"), 0);
        S.is("of day 2", Calls.ask(one, "first first=0"), 2);
        S.of(TERMS, "in how many WEEKS that AGREE it has the MOOD of that number");
        SameKeeper free = Calls.locked("lock 3 from 7;");
        S.is("0", Calls.ask(free, "total weeks 0"), 300);
        S.is("9", Calls.ask(free, "total weeks 9"), 300);
        S.is("10", Calls.ask(free, "total weeks 10"), 0);
        S.is("9999", Calls.ask(free, "total weeks 9999"), 0);
        S.is("below 0", Calls.ask(free, "total weeks (0-1)"), 0);
        S.is("far below 0", Calls.ask(free, "total weeks (0-9999*9999)"), 0);
        S.is("of a count", Calls.ask(free, "total weeks weeks 0"), 0);
        S.is("none agrees", Calls.ask(none, "total weeks 0"), 0);
        S.is("above what a sum can be", Calls.ask(Calls.locked("lock 9 from 0;"), "most weeks 0"), 100000000);
        S.is("cut as a sum", Calls.ask(Calls.locked("lock 9 from 0;"), "most weeks 0+0"), 1000000);
        S.is("cut as a difference", Calls.ask(Calls.locked("lock 9 from 0;"), "least 0-weeks 0"), -1000000);
        S.is("cut as a product", Calls.ask(Calls.locked("lock 9 from 0;"), "most weeks 0*1"), 1000000);
    }

    private static void questionFaults() {
        SameKeeper x = Calls.locked(HEAD);
        S.of(TERMS, "an unknown word at its first byte; what stands behind it, too");
        S.questionFault(x, "fist all", 1, 0);
        S.questionFault(x, " firsts all", 1, 1);
        S.questionFault(x, "all", 1, 0);
        S.questionFault(x, "often " + "q".repeat(1594), 1, 6);
        S.questionFault(x, "often alls", 1, 6);
        S.questionFault(x, "total moods", 1, 6);
        S.questionFault(x, "total mood", 1, 6);
        S.questionFault(x, "total day", 1, 6);
        S.questionFault(x, "often 1", 1, 7);
        S.questionFault(x, "first barge", 1, 11);
        S.questionFault(x, "often all;", 1, 9);
        S.questionFault(x, "often all  ;", 1, 11);
        S.questionFault(x, "often all often", 1, 10);
        S.questionFault(x, "total 1 12345", 1, 8);
        S.questionFault(x, "total 1)", 1, 7);
        S.questionFault(x, "often [all]]", 1, 11);
        S.questionFault(x, "total 1 < 2", 1, 8);
        S.questionFault(x, "often 1 < 2 > 3", 1, 12);
        S.questionFault(x, "often all \n", 0, -1);
    }

    private static void questionDepth() {
        SameKeeper x = Calls.locked(HEAD);
        S.of(TERMS, "the 7th of ( [ not weeks that is open at once (not until its FACT, weeks until its PART ends), at it");
        S.questionFault(x, "total ((((((1))))))", 0, -1);
        S.questionFault(x, "total (((((((1)))))))", 4, 12);
        S.questionFault(x, "often [[[[[[all]]]]]]", 0, -1);
        S.questionFault(x, "often [[[[[[[all]]]]]]]", 4, 12);
        S.questionFault(x, "often not not not not not not all", 0, -1);
        S.questionFault(x, "often not not not not not not not all", 4, 30);
        S.questionFault(x, "total weeks weeks weeks weeks weeks weeks 1", 0, -1);
        S.questionFault(x, "total weeks weeks weeks weeks weeks weeks weeks 1", 4, 42);
        S.questionFault(x, "often not [ not [ weeks ( 1 ) = 1 ] ]", 0, -1);
        S.questionFault(x, "often not [ not [ weeks ( (1) ) = 1 ] ]", 4, 26);
        S.questionFault(x, "often not [ not [ weeks ( weeks 1 ) = 1 ] ]", 4, 26);
        S.questionFault(x, "often [[[[[[not all]]]]]]", 4, 12);
        S.questionFault(x, "often not not not not not not [all]", 4, 30);
        S.questionFault(x, "often not not not not not not min(1,2)=1", 4, 33);
        S.questionFault(x, "often not not not not not min(1,2)=max(1,2)", 0, -1);
        S.questionFault(x, "often " + "not all and ".repeat(20) + "not not not not not not all", 0, -1);
        S.questionFault(x, "often " + "not all or ".repeat(20) + "[[[[[[all]]]]]]", 0, -1);
        S.questionFault(x, "total " + "weeks 1+".repeat(20) + "weeks weeks weeks weeks weeks weeks 1", 0, -1);
        S.questionFault(x, "total weeks 1*((((((1))))))", 0, -1);
        S.questionFault(x, "often not weeks 1=((((((1))))))", 4, 23);
        S.questionFault(x, "often not weeks 1=(((((1)))))", 0, -1);
        S.questionFault(x, "often [[[[[[(1)=1]]]]]]", 4, 12);
        S.questionFault(x, "often [all]" + " and [all]".repeat(9), 0, -1);
        S.questionFault(x, "total (1)" + "+(1)*min(1,2)".repeat(9), 0, -1);
    }

    private static void locks() {
        S.of(4, "how many STATEMENTS");
        S.is("one", Calls.lock(new SameKeeper(), "lock 2 from 0;"), 1);
        S.is("two", Calls.lock(new SameKeeper(), "lock 2 from 0;rain 3;"), 2);
        S.of(4, "one without a STATEMENT has FAULT 1 at its length");
        S.lockFault("", 1, 0);
        S.lockFault(" ", 1, 1);
        S.lockFault("\n \n", 1, 3);
        S.lockFault(" ".repeat(1600), 1, 1600);
        S.of(4, "The tape (it goes)");
        SameKeeper x = new SameKeeper();
        Calls.lock(x, HEAD);
        S.is("without a fault", x.feed(0, 0, 0, 0, 0), 20);
        x.lock();
        S.is("with a fault", x.feed(0, 0, 0, 0, 0), 20);
        S.of(4, "Without one all is as at first, nothing is KEPT, HEARD or can be undone; the seed stays");
        SameKeeper y = Calls.locked("lock 3 from 1;mute 0;barge 1 4;rain 100;");
        y.go();
        y.set(1, 0, 9);
        y.set(2, 1, 9);
        y.mute(0, 0);
        Calls.hear(y, 1, 1);
        y.seed(77);
        S.is("the same text again", Calls.lock(y, "lock 3 from 1;mute 0;barge 1 4;"), 3);
        S.is("week", y.has(1), 0);
        S.is("mood", y.has(2), 1);
        S.is("mute", y.day(0, 2), 1);
        S.is("barge", y.day(1, 0), 4);
        S.is("wet", y.day(2, 1), 0);
        S.is("kept", y.has(4), 0);
        S.is("kept(0, 0)", y.kept(0, 0), NOTHING);
        S.is("heard", y.has(5), 0);
        S.is("undone", y.has(6), 0);
        S.is("undo()", y.undo(), false);
        SameKeeper z = Calls.locked("lock 3 from 1;mute 0;barge 1 4;");
        z.seed(77);
        y.chance(3);
        z.chance(3);
        S.is("the seed, and no rain of the lock ahead", Snapshot.of(y), Snapshot.of(z));
        formerLocks();
    }

    /** Nothing of a lock ahead, held or with a fault, is left in a later one. */
    private static void formerLocks() {
        String rich = "lock 9 from 5;barge 0 1;barge 1 2;wet 0 3;wet 1 4;mute 0;mute 1;says 6;does 7;wage 8;rain 100;";
        String plain = "lock 2 from 0;";
        for (int held = 0; held < 6; held++) {
            SameKeeper x = new SameKeeper();
            for (int n = 0; n < 5; n++) {
                boolean isRich = n <= held && n != 3;
                Calls.lock(x, isRich ? rich : plain + (n == 3 ? rich : ""));
                x.weeks();
                x.pay();
            }
            S.is("statements", Calls.lock(x, plain), 1);
            S.is("all", Snapshot.of(x), Snapshot.of(Calls.locked(plain)));
            S.is("told", x.told(0, 4), 4);
            S.is("becomes", x.does(0, 4, 3), 3);
            S.is("pay", x.pay(), 18);
            S.is("paid", x.paid(1), 9);
            S.is("no rain", x.chance(1) + x.day(0, 1) + x.day(1, 1), 1);
        }
        SameKeeper y = new SameKeeper();
        String sum = "1" + "+1".repeat(780);
        for (int n = 0; n < 6; n++) {
            S.is("a long text again", Calls.lock(y, HEAD + "does " + sum + ";"), 2);
            S.is("its sum", y.does(0, 0, 0), 1);
            S.is("a long question again", Calls.ask(y, "most " + sum), 781);
        }
    }

    private static void faults() {
        S.of(5, "0 without, and ahead of any");
        SameKeeper x = new SameKeeper();
        S.is("ahead of any", x.fault(0), 0);
        Calls.lock(x, "lock 1");
        S.is("with", x.fault(0), 2);
        Calls.lock(x, HEAD);
        S.is("without", x.fault(0), 0);
        S.of(5, "its place (1; NONE without)");
        S.is("without", x.fault(1), -1);
        S.is("ahead of any", new SameKeeper().fault(1), -1);
        S.of(5, "Of the latest lock() or ask()");
        Calls.ask(x, "total (((((((");
        S.is("of ask()", x.fault(0), 4);
        S.is("its place", x.fault(1), 12);
        x.set(0, 0, 5);
        x.hear();
        x.on();
        x.end(-1);
        S.is("other calls leave it", x.fault(0), 4);
        S.is("and its place", x.fault(1), 12);
        Calls.lock(x, HEAD + "says 1;says");
        S.is("of lock()", x.fault(0), 5);
        Calls.ask(x, "often all");
        S.is("of ask() without one", x.fault(0), 0);
        S.is("no place", x.fault(1), -1);
        S.of(5, "NONE for another what");
        for (int what : new int[] {-1, 2, Integer.MIN_VALUE, Integer.MAX_VALUE}) {
            S.is("what " + what, x.fault(what), -1);
        }
    }

    private static void asks() {
        S.of(36, "NONE of first, last, when its TEST holds for none");
        SameKeeper x = Calls.locked(HEAD);
        S.is("first", Calls.ask(x, "first not all"), -1);
        S.is("last", Calls.ask(x, "last not all"), -1);
        S.is("often has 0", Calls.ask(x, "often not all"), 0);
        S.is("no fault", x.fault(0), 0);
        S.of(36, "The tape (it goes)");
        S.is("without a fault", x.feed(0, 0, 0, 0, 0), 20);
        S.is("with a fault", x.ask(), NOTHING);
        S.is("it went", x.feed(0, 0, 0, 0, 0), 20);
        S.of(36, "NOTHING with a FAULT, or, doing nothing else, without a lock");
        x.end(0);
        S.is("an empty tape", x.ask(), NOTHING);
        S.is("its fault", x.fault(0), 1);
        S.is("its place", x.fault(1), 0);
        S.is("not counted as refused", x.status(1), 0);
        SameKeeper y = new SameKeeper();
        S.is("without a lock", Calls.ask(y, "often all"), NOTHING);
        S.is("no fault", y.fault(0), 0);
        S.is("the tape goes without a lock", y.feed(0, 0, 0, 0, 0), 20);
        S.is("without a lock, with a fault", Calls.ask(y, "often"), NOTHING);
        S.is("no fault, either", y.fault(0), 0);
        Calls.lock(y, "lock 1");
        Calls.ask(y, "often all");
        S.is("the fault of lock() stays", y.fault(0), 2);
        S.is("the place of lock() stays", y.fault(1), 5);
        for (int what = 0; what <= 5; what++) {
            S.is("refused " + what, y.status(what), what == 1 ? 1 : 0);
        }
    }
}

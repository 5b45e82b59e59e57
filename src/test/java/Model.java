import java.util.ArrayList;
import java.util.Arrays;
import java.util.HashMap;
import java.util.List;
import java.util.Map;
import java.util.function.Predicate;

/**
 * A second telling of the document, as plain as can be: the weeks that agree are found mood by mood, and
 * each is written down. It is slow, and tells of no more than MOST_WEEKS weeks.
 */
final class Model {
    static final long NONE = -1;
    static final long NOTHING = -1000000000000000L;

    static final int MOST_WEEKS = 10000;

    /** More weeks agree than the model writes down. */
    static final class TooMany extends RuntimeException {
        TooMany() {
            super(null, null, false, false);
        }
    }

    interface Sum {
        long of(Map<String, Long> names);
    }

    static final class Fault extends RuntimeException {
        final int kind;
        final int place;

        Fault(int kind, int place) {
            super(null, null, false, false);
            this.kind = kind;
            this.place = place;
        }
    }

    static final class Keeper implements Cloneable {
        int week;
        int mood;
        int[] barge;
        int[] wet;
        boolean[] mute;
        List<long[]> kept = new ArrayList<>();

        Keeper another() {
            Keeper k = new Keeper();
            k.week = week;
            k.mood = mood;
            k.barge = barge.clone();
            k.wet = wet.clone();
            k.mute = mute.clone();
            k.kept = new ArrayList<>(kept);
            return k;
        }
    }

    static final class Told {
        int days;
        int mood;
        int rain;
        int statements;
        int[] barge;
        int[] wet;
        boolean[] mute;
        Sum says;
        Sum does;
        Sum wage;
    }

    private final List<Integer> tape = new ArrayList<>();
    private List<Integer> picture = new ArrayList<>();
    private final long[] refused = new long[6];
    private long fault = 0;
    private long place = NONE;
    private Told lock;
    private Keeper keeper;
    private List<Keeper> undoable = new ArrayList<>();
    private List<int[]> rows = new ArrayList<>();
    private long x = 1;
    private final Map<List<Integer>, Day> known = new HashMap<>();

    // ---- texts

    private static final class Text {
        final List<Integer> bytes;
        int at = 0;
        int open = 0;

        Text(List<Integer> bytes) {
            this.bytes = bytes;
        }

        int here() {
            return at < bytes.size() ? bytes.get(at) : -1;
        }

        void blanks() {
            while (here() == 10 || here() == 32) {
                at++;
            }
        }

        static boolean letter(int b) {
            return b >= 'a' && b <= 'z';
        }

        static boolean digit(int b) {
            return b >= '0' && b <= '9';
        }

        boolean touching() {
            return at > 0 && (letter(bytes.get(at - 1)) || digit(bytes.get(at - 1)));
        }

        String peekWord() {
            blanks();
            StringBuilder word = new StringBuilder();
            if (touching()) {
                return "";
            }
            for (int i = at; i < bytes.size() && letter(bytes.get(i)); i++) {
                word.append((char) (int) bytes.get(i));
            }
            return word.toString();
        }

        boolean word(String wanted) {
            if (!peekWord().equals(wanted)) {
                return false;
            }
            at += wanted.length();
            return true;
        }

        void mustWord(String wanted) {
            if (!word(wanted)) {
                throw new Fault(1, at);
            }
        }

        boolean sign(char c) {
            blanks();
            if (here() != c) {
                return false;
            }
            at++;
            return true;
        }

        void mustSign(char c) {
            if (!sign(c)) {
                throw new Fault(1, at);
            }
        }

        boolean numberHere() {
            blanks();
            return digit(here()) && !touching();
        }

        int number() {
            if (!numberHere()) {
                throw new Fault(1, at);
            }
            int value = 0;
            for (int n = 0; digit(here()); n++) {
                if (n == 4) {
                    throw new Fault(1, at);
                }
                value = value * 10 + here() - '0';
                at++;
            }
            return value;
        }

        int number(int least, int most) {
            blanks();
            int where = at;
            int value = number();
            if (value < least || value > most) {
                throw new Fault(2, where);
            }
            return value;
        }

        void deeper(int where) {
            open++;
            if (open == 7) {
                throw new Fault(4, where);
            }
        }
    }

    static long cut(long v) {
        return Math.max(-1000000, Math.min(1000000, v));
    }

    private static Sum sum(Text t, List<String> names) {
        Sum left = product(t, names);
        while (true) {
            Sum a = left;
            if (t.sign('+')) {
                Sum b = product(t, names);
                left = m -> cut(a.of(m) + b.of(m));
            } else if (t.sign('-')) {
                Sum b = product(t, names);
                left = m -> cut(a.of(m) - b.of(m));
            } else {
                return left;
            }
        }
    }

    private static Sum product(Text t, List<String> names) {
        Sum left = part(t, names);
        while (true) {
            Sum a = left;
            if (t.sign('*')) {
                Sum b = part(t, names);
                left = m -> cut(a.of(m) * b.of(m));
            } else if (t.sign('/')) {
                Sum b = part(t, names);
                left = m -> {
                    long by = b.of(m);
                    long of = a.of(m);
                    if (by == 0) {
                        return 0;
                    }
                    return (long) Math.floor((double) of / (double) by);
                };
            } else {
                return left;
            }
        }
    }

    private static Sum part(Text t, List<String> names) {
        if (t.numberHere()) {
            long n = t.number();
            return m -> n;
        }
        if (t.sign('(')) {
            t.deeper(t.at - 1);
            Sum inner = sum(t, names);
            t.mustSign(')');
            t.open--;
            return inner;
        }
        String word = t.peekWord();
        int where = t.at;
        if (word.equals("min") || word.equals("max")) {
            t.word(word);
            t.mustSign('(');
            t.deeper(t.at - 1);
            Sum a = sum(t, names);
            t.mustSign(',');
            Sum b = sum(t, names);
            t.mustSign(')');
            t.open--;
            return word.equals("min") ? m -> Math.min(a.of(m), b.of(m)) : m -> Math.max(a.of(m), b.of(m));
        }
        if (!names.contains(word)) {
            throw new Fault(1, where);
        }
        t.word(word);
        if (word.equals("weeks")) {
            t.deeper(where);
            Sum of = part(t, names);
            t.open--;
            return m -> m.getOrDefault("weeks" + of.of(m), 0L);
        }
        return m -> m.get(word);
    }

    private static final List<String> IN_SAYS = Arrays.asList("mood", "barge", "wet", "day", "week");
    private static final List<String> IN_DOES = Arrays.asList("mood", "barge", "wet", "day", "week", "told", "alone");
    private static final List<String> IN_ASK =
        Arrays.asList("number", "barge", "wet", "mute", "first", "week", "weeks");

    private static Told readLock(List<Integer> bytes) {
        Text t = new Text(bytes);
        Told l = new Told();
        t.mustWord("lock");
        l.days = t.number(2, 9);
        t.mustWord("from");
        l.mood = t.number(0, 9);
        t.mustSign(';');
        l.statements = 1;
        l.barge = new int[l.days];
        l.wet = new int[l.days];
        l.mute = new boolean[l.days];
        for (t.blanks(); t.at < bytes.size(); t.blanks()) {
            if (l.statements == 60) {
                throw new Fault(5, t.at);
            }
            statement(t, l);
            t.mustSign(';');
            l.statements++;
        }
        l.says = l.says == null ? m -> m.get("mood") : l.says;
        l.does = l.does == null ? m -> m.get("told") : l.does;
        l.wage = l.wage == null ? m -> m.get("mood") : l.wage;
        return l;
    }

    private static void statement(Text t, Told l) {
        int where = t.at;
        if (t.word("barge")) {
            int d = t.number(0, l.days - 1);
            l.barge[d] = t.number(0, 9);
        } else if (t.word("wet")) {
            int d = t.number(0, l.days - 1);
            l.wet[d] = t.number(0, 9);
        } else if (t.word("mute")) {
            t.blanks();
            int numberAt = t.at;
            int d = t.number(0, l.days - 1);
            if (l.mute[d]) {
                throw new Fault(2, numberAt);
            }
            l.mute[d] = true;
        } else if (t.word("rain")) {
            l.rain = t.number(0, 100);
        } else if (t.word("says")) {
            once(l.says, where);
            l.says = sum(t, IN_SAYS);
        } else if (t.word("does")) {
            once(l.does, where);
            l.does = sum(t, IN_DOES);
        } else if (t.word("wage")) {
            once(l.wage, where);
            l.wage = sum(t, IN_SAYS);
        } else {
            throw new Fault(1, t.at);
        }
    }

    private static void once(Sum known, int where) {
        if (known != null) {
            throw new Fault(5, where);
        }
    }

    private static Sum test(Text t) {
        Sum left = both(t);
        while (t.word("or")) {
            Sum a = left;
            Sum b = both(t);
            left = m -> a.of(m) + b.of(m) > 0 ? 1 : 0;
        }
        return left;
    }

    private static Sum both(Text t) {
        Sum left = fact(t);
        while (t.word("and")) {
            Sum a = left;
            Sum b = fact(t);
            left = m -> a.of(m) * b.of(m);
        }
        return left;
    }

    private static Sum fact(Text t) {
        t.blanks();
        int where = t.at;
        if (t.word("not")) {
            t.deeper(where);
            Sum a = fact(t);
            t.open--;
            return m -> 1 - a.of(m);
        }
        if (t.sign('[')) {
            t.deeper(where);
            Sum a = test(t);
            t.mustSign(']');
            t.open--;
            return a;
        }
        if (t.word("all")) {
            return m -> 1;
        }
        Sum a = sum(t, IN_ASK);
        t.blanks();
        int sign = t.here();
        if (sign != '<' && sign != '>' && sign != '=') {
            throw new Fault(1, t.at);
        }
        t.at++;
        Sum b = sum(t, IN_ASK);
        if (sign == '<') {
            return m -> a.of(m) < b.of(m) ? 1 : 0;
        }
        if (sign == '>') {
            return m -> a.of(m) > b.of(m) ? 1 : 0;
        }
        return m -> a.of(m) == b.of(m) ? 1 : 0;
    }

    // ---- weeks

    private Map<String, Long> names(Keeper k, int d, long mood) {
        Map<String, Long> m = new HashMap<>();
        m.put("mood", mood);
        m.put("barge", (long) k.barge[d]);
        m.put("wet", (long) k.wet[d]);
        m.put("day", (long) d);
        m.put("week", (long) k.week);
        return m;
    }

    private int says(Keeper k, int d, int mood) {
        return (int) Math.floorMod(lock.says.of(names(k, d, mood)), 10L);
    }

    private int becomes(Keeper k, int d, int ahead, int word) {
        Map<String, Long> m = names(k, d, ahead);
        m.put("told", k.mute[d] ? 0L : word);
        m.put("alone", k.mute[d] ? 1L : 0L);
        return (int) Math.floorMod(lock.does.of(m), 10L);
    }

    /** What he says on a day by its mood, and what he becomes by the mood ahead and a word. */
    private static final class Day {
        final int[] said = new int[10];
        final int[][] turned = new int[10][10];
    }

    private Day dayOf(Keeper k, int d) {
        List<Integer> key = Arrays.asList(d, k.week, k.barge[d], k.wet[d], k.mute[d] ? 1 : 0);
        return known.computeIfAbsent(key, unknown -> {
            Day day = new Day();
            for (int a = 0; a < 10; a++) {
                day.said[a] = says(k, d, a);
                for (int b = 0; b < 10; b++) {
                    day.turned[a][b] = becomes(k, d, a, b);
                }
            }
            return day;
        });
    }

    private List<int[]> agreeing(Keeper k, int lie) {
        Day[] days = new Day[lock.days];
        for (int d = 0; d < lock.days; d++) {
            days[d] = dayOf(k, d);
        }
        List<int[]> all = new ArrayList<>();
        tryDay(days, k.mood, lie, new int[lock.days], 0, all);
        return all;
    }

    /** Every mood of this day is tried, behind days that agree, and with each every row of the days behind it. */
    private static void tryDay(Day[] days, int ahead, int lie, int[] week, int d, List<int[]> all) {
        if (d == days.length) {
            if (all.size() == MOST_WEEKS) {
                throw new TooMany();
            }
            all.add(week.clone());
            return;
        }
        for (int m = 0; m < 10; m++) {
            week[d] = m;
            if (days[d].turned[ahead][(days[d].said[m] + lie) % 10] == m) {
                tryDay(days, m, lie, week, d + 1, all);
            }
        }
    }

    private List<int[]> agreeing() {
        return agreeing(keeper, 0);
    }

    private boolean isDay(long d) {
        return lock != null && d >= 0 && d < lock.days;
    }

    private static boolean is(long v, long least, long most) {
        return v >= least && v <= most;
    }

    private long refuse(int what) {
        refused[what]++;
        return NONE;
    }

    private long no(int what) {
        refused[what]++;
        return 0;
    }

    private List<Integer> taken() {
        List<Integer> bytes = new ArrayList<>(tape);
        tape.clear();
        return bytes;
    }

    // ---- calls

    long call(String name, int... a) {
        switch (name) {
            case "feed":
                return feed(a);
            case "end":
                if (a[0] < 0 || a[0] > tape.size()) {
                    return no(0);
                }
                tape.subList(a[0], tape.size()).clear();
                return 1;
            case "lock":
                return lockIt();
            case "fault":
                return a[0] == 0 ? fault : a[0] == 1 ? place : NONE;
            case "has":
                return has(a[0]);
            case "day":
                return !isDay(a[0]) ? NONE : a[1] == 0 ? keeper.barge[a[0]] : a[1] == 1 ? keeper.wet[a[0]]
                    : a[1] == 2 ? (keeper.mute[a[0]] ? 1 : 0) : NONE;
            case "told":
                return !isDay(a[0]) || !is(a[1], 0, 9) || keeper.mute[a[0]] ? NONE : says(keeper, a[0], a[1]);
            case "does":
                return !isDay(a[0]) || !is(a[1], 0, 9) || !keeper.mute[a[0]] && !is(a[2], 0, 9) ? NONE
                    : becomes(keeper, a[0], a[1], a[2]);
            case "kept":
                return kept(a[0], a[1]);
            case "same":
                return same(a[0], a[1]);
            case "set":
                return set(a[0], a[1], a[2]);
            case "mute":
                if (!isDay(a[0]) || !is(a[1], 0, 1) || keeper.mute[a[0]] == (a[1] == 1)) {
                    return no(2);
                }
                act();
                keeper.mute[a[0]] = a[1] == 1;
                return 1;
            case "go":
                return go();
            case "chance":
                return chance(a[0]);
            case "undo":
                if (undoable.isEmpty()) {
                    return no(4);
                }
                keeper = undoable.remove(undoable.size() - 1);
                return 1;
            case "seed":
                if (a[0] < 0) {
                    return no(5);
                }
                x = a[0];
                return 1;
            case "ask":
                return ask();
            case "hear":
                return hear();
            case "image":
                picture = imageOf();
                return picture.size();
            case "octet":
                return is(a[0], 0, picture.size() - 1) ? picture.get(a[0]) : NONE;
            case "on":
                return on();
            case "status":
                return is(a[0], 0, 5) ? refused[a[0]] : NONE;
            default:
                return ofWeeks(name, a);
        }
    }

    private long feed(int[] a) {
        if (tape.size() + 20 > 1600) {
            return refuse(0);
        }
        for (int n : a) {
            for (int shift = 24; shift >= 0; shift -= 8) {
                tape.add(n >>> shift & 255);
            }
        }
        return tape.size();
    }

    private long lockIt() {
        try {
            lock = readLock(taken());
        } catch (Fault f) {
            fault = f.kind;
            place = f.place;
            return refuse(1);
        }
        fault = 0;
        place = NONE;
        keeper = new Keeper();
        keeper.mood = lock.mood;
        keeper.barge = lock.barge.clone();
        keeper.wet = lock.wet.clone();
        keeper.mute = lock.mute.clone();
        undoable.clear();
        rows.clear();
        known.clear();
        return lock.statements;
    }

    private long has(int what) {
        if (!is(what, 0, 6)) {
            return NONE;
        }
        if (lock == null) {
            return 0;
        }
        int mutes = 0;
        for (boolean b : keeper.mute) {
            mutes += b ? 1 : 0;
        }
        long[] all = {lock.days, keeper.week, keeper.mood, mutes, Math.min(30, keeper.kept.size()), rows.size(),
            undoable.size()};
        return all[what];
    }

    private long kept(int k, int what) {
        if (lock == null || !is(what, 0, 2)) {
            return NOTHING;
        }
        List<long[]> told = keeper.kept.subList(Math.max(0, keeper.kept.size() - 30), keeper.kept.size());
        return is(k, 0, told.size() - 1) ? told.get(k)[what] : NOTHING;
    }

    private static long same(int past, int each) {
        if (!is(past, 0, 1439) || !is(each, 0, 1439)) {
            return NONE;
        }
        int minutes = past;
        for (int n = 0; n < 5000; n++) {
            if (minutes == 0) {
                return n;
            }
            minutes = Math.floorMod(minutes - each, 1440);
        }
        return NONE;
    }

    private void act() {
        undoable.add(keeper.another());
        if (undoable.size() > 20) {
            undoable.remove(0);
        }
    }

    private long set(int d, int what, int much) {
        if (!isDay(d) || !is(what, 0, 1) || !is(much, 0, 9)) {
            return no(2);
        }
        int[] of = what == 0 ? keeper.barge : keeper.wet;
        if (of[d] == much) {
            return no(2);
        }
        act();
        (what == 0 ? keeper.barge : keeper.wet)[d] = much;
        return 1;
    }

    private static boolean goesBy(Keeper k, List<int[]> all, int number) {
        if (all.isEmpty() || k.week == 999) {
            return false;
        }
        int[] week = all.get(number);
        int last = week[week.length - 1];
        k.kept.add(new long[] {k.week, all.size(), last});
        k.mood = last;
        k.week++;
        return true;
    }

    private long go() {
        if (lock == null) {
            return refuse(3);
        }
        Keeper before = keeper.another();
        if (!goesBy(keeper, agreeing(), 0)) {
            return refuse(3);
        }
        Keeper after = keeper;
        keeper = before;
        act();
        keeper = after;
        return keeper.mood;
    }

    private long draw(long m) {
        x = (1103515245L * x + 12345) % (1L << 31);
        return x / 64 % m;
    }

    private long chance(int n) {
        if (lock == null || !is(n, 1, 30) || keeper.week + n > 999) {
            return refuse(3);
        }
        act();
        for (int i = 0; i < n; i++) {
            for (int d = 0; d < lock.days; d++) {
                if (draw(100) < lock.rain) {
                    keeper.wet[d] = Math.min(9, keeper.wet[d] + 1);
                } else {
                    keeper.barge[d] = (int) draw(10);
                }
            }
            List<int[]> all = agreeing();
            if (all.isEmpty()) {
                return i;
            }
            goesBy(keeper, all, (int) draw(all.size()));
        }
        return n;
    }

    private long hear() {
        List<Integer> b = taken();
        boolean fits = lock != null && is(b.size(), 2, 32) && b.size() % 2 == 0;
        for (int i = 0; fits && i < b.size(); i += 2) {
            fits = isDay(b.get(i)) && !keeper.mute[b.get(i)] && b.get(i + 1) <= 9;
        }
        if (!fits) {
            return refuse(1);
        }
        rows = new ArrayList<>();
        for (int i = 0; i < b.size(); i += 2) {
            rows.add(new int[] {b.get(i), b.get(i + 1)});
        }
        return rows.size();
    }

    private List<Integer> imageOf() {
        List<Integer> b = new ArrayList<>();
        b.add(lock == null ? 0 : keeper.week / 256);
        b.add(lock == null ? 0 : keeper.week % 256);
        b.add(lock == null ? 0 : keeper.mood);
        for (int d = 0; lock != null && d < lock.days; d++) {
            b.add(keeper.barge[d]);
            b.add(keeper.wet[d]);
            b.add(keeper.mute[d] ? 1 : 0);
        }
        b.add(check(b));
        return b;
    }

    private static int check(List<Integer> bytes) {
        int c = 139;
        for (int b : bytes) {
            c = (3 * c + b) % 251;
        }
        return c;
    }

    private long on() {
        List<Integer> b = taken();
        if (lock == null || b.size() != 3 + 3 * lock.days + 1
            || b.get(b.size() - 1) != check(b.subList(0, b.size() - 1))) {
            return no(5);
        }
        Keeper k = keeper.another();
        k.kept.clear();
        k.week = b.get(0) * 256 + b.get(1);
        k.mood = b.get(2);
        boolean fits = k.week <= 999 && k.mood <= 9;
        for (int d = 0; d < lock.days; d++) {
            k.barge[d] = b.get(3 + 3 * d);
            k.wet[d] = b.get(4 + 3 * d);
            k.mute[d] = b.get(5 + 3 * d) == 1;
            fits = fits && k.barge[d] <= 9 && k.wet[d] <= 9 && b.get(5 + 3 * d) <= 1;
        }
        if (!fits) {
            return no(5);
        }
        keeper = k;
        undoable.clear();
        return 1;
    }

    private long ask() {
        List<Integer> bytes = taken();
        if (lock == null) {
            return NOTHING;
        }
        Text t = new Text(bytes);
        String verb;
        Sum what;
        try {
            verb = t.peekWord();
            if (!Arrays.asList("first", "last", "often", "total", "most", "least").contains(verb)) {
                throw new Fault(1, t.at);
            }
            t.word(verb);
            what = Arrays.asList("first", "last", "often").contains(verb) ? test(t) : sum(t, IN_ASK);
            t.blanks();
            if (t.at < bytes.size()) {
                throw new Fault(1, t.at);
            }
        } catch (Fault f) {
            fault = f.kind;
            place = f.place;
            return NOTHING;
        }
        fault = 0;
        place = NONE;
        List<int[]> all = agreeing();
        List<Long> values = new ArrayList<>();
        for (int d = 0; d < lock.days; d++) {
            Map<String, Long> m = names(keeper, d, 0);
            m.put("number", (long) d);
            m.put("mute", keeper.mute[d] ? 1L : 0L);
            m.put("first", all.isEmpty() ? -1L : all.get(0)[d]);
            for (int[] week : all) {
                m.merge("weeks" + week[d], 1L, Long::sum);
            }
            values.add(what.of(m));
        }
        switch (verb) {
            case "first":
                return values.indexOf(1L);
            case "last":
                return values.lastIndexOf(1L);
            case "most":
                return values.stream().mapToLong(Long::longValue).max().getAsLong();
            case "least":
                return values.stream().mapToLong(Long::longValue).min().getAsLong();
            default:
                return values.stream().mapToLong(Long::longValue).sum();
        }
    }

    private long ofWeeks(String name, int[] a) {
        boolean wide = Arrays.asList("weeks", "many", "pay", "heard", "tells").contains(name);
        long missing = wide ? NOTHING : NONE;
        if (lock == null) {
            return missing;
        }
        List<int[]> all = agreeing();
        switch (name) {
            case "weeks":
                return all.size();
            case "mood":
                return isDay(a[1]) && is(a[0], 0, all.size() - 1) ? all.get(a[0])[a[1]] : missing;
            case "many":
                return isDay(a[0]) && is(a[1], 0, 9) ? all.stream().filter(w -> w[a[0]] == a[1]).count() : missing;
            case "hushed":
                return least(k -> !agreeing(k, 0).isEmpty());
            case "wished":
                return !isDay(a[0]) || !is(a[1], 0, 9) ? missing : least(k -> {
                    List<int[]> by = agreeing(k, 0);
                    return !by.isEmpty() && by.stream().allMatch(w -> w[a[0]] == a[1]);
                });
            case "lies":
                int bits = 0;
                for (int lie = 0; lie < 10; lie++) {
                    bits |= agreeing(keeper, lie).isEmpty() ? 0 : 1 << lie;
                }
                return bits;
            case "later":
                return is(a[0], 0, 30) ? later(a[0]) : missing;
            case "ring":
                for (int n = 1; n <= 30; n++) {
                    long then = later(n);
                    if (then == NONE || then == keeper.mood) {
                        return then == NONE ? NONE : n;
                    }
                }
                return NONE;
            case "frees":
                return frees(a[0], a[1]);
            case "pay":
                return all.isEmpty() ? missing : payOf(best(all));
            case "paid":
                return all.isEmpty() || !isDay(a[0]) ? missing : best(all)[a[0]];
            case "rest":
                return least(this::atRest);
            case "unlike":
                return unlike(all, a[0], a[1]);
            default:
                return ofHeard(name, a, all);
        }
    }

    private long least(Predicate<Keeper> fits) {
        long best = NONE;
        for (int set = 0; set < 1 << lock.days; set++) {
            Keeper k = keeper.another();
            boolean apart = true;
            for (int d = 0; d < lock.days; d++) {
                if ((set >> d & 1) == 1) {
                    apart = apart && !k.mute[d];
                    k.mute[d] = true;
                }
            }
            boolean fewer = best == NONE || Integer.bitCount(set) < Long.bitCount(best);
            if (apart && fewer && fits.test(k)) {
                best = set;
            }
        }
        return best;
    }

    private boolean atRest(Keeper k) {
        List<int[]> own = agreeing(k, 0);
        if (own.isEmpty()) {
            return false;
        }
        for (int d = 0; d < lock.days; d++) {
            if (keeper.mute[d]) {
                continue;
            }
            Keeper other = k.another();
            other.mute[d] = !other.mute[d];
            List<int[]> by = agreeing(other, 0);
            if (!by.isEmpty() && wage(by.get(0), d) > wage(own.get(0), d)) {
                return false;
            }
        }
        return true;
    }

    private long wage(int[] week, int d) {
        return lock.wage.of(names(keeper, d, week[d]));
    }

    private long payOf(int[] week) {
        long pay = 0;
        for (int d = 0; d < lock.days; d++) {
            pay += wage(week, d);
        }
        return pay;
    }

    private int[] best(List<int[]> all) {
        int[] best = all.get(0);
        for (int[] week : all) {
            if (payOf(week) > payOf(best)) {
                best = week;
            }
        }
        return best;
    }

    private long later(int n) {
        Keeper k = keeper.another();
        for (int i = 0; i < n; i++) {
            if (!goesBy(k, agreeing(k, 0), 0)) {
                return NONE;
            }
        }
        return k.mood;
    }

    private long frees(int d, int what) {
        if (!isDay(d) || !is(what, 0, 1)) {
            return NONE;
        }
        int best = 0;
        int most = -1;
        for (int v = 0; v <= 9; v++) {
            Keeper k = keeper.another();
            (what == 0 ? k.barge : k.wet)[d] = v;
            int ways = agreeing(k, 0).size();
            if (ways > most) {
                most = ways;
                best = v;
            }
        }
        return best;
    }

    private long unlike(List<int[]> all, int one, int other) {
        if (!is(one, 0, all.size() - 1) || !is(other, 0, all.size() - 1)) {
            return NONE;
        }
        int n = 0;
        for (int d = 0; d < lock.days; d++) {
            n += all.get(one)[d] == all.get(other)[d] ? 0 : 1;
        }
        return n;
    }

    private long ofHeard(String name, int[] a, List<int[]> all) {
        List<int[]> left = new ArrayList<>();
        if (name.equals("known") || name.equals("sure")) {
            if (!isDay(a[0]) || keeper.mute[a[0]] || !is(a[1], 0, 9)) {
                return NONE;
            }
            for (int[] week : all) {
                if (says(keeper, a[0], week[a[0]]) == a[1]) {
                    left.add(week);
                }
            }
            return name.equals("known") ? known(left, a[2]) : sure(left, a[0]);
        }
        for (int[] week : all) {
            boolean fits = true;
            for (int[] row : rows) {
                fits = fits && !keeper.mute[row[0]] && says(keeper, row[0], week[row[0]]) == row[1];
            }
            if (fits) {
                left.add(week);
            }
        }
        if (name.equals("heard")) {
            return left.size();
        }
        if (!name.equals("tells")) {
            throw new IllegalArgumentException(name);
        }
        if (left.isEmpty() || !is(a[0], 0, 1)) {
            return NOTHING;
        }
        long[] most = new long[lock.days];
        int telling = 0;
        for (int d = 0; d < lock.days; d++) {
            int day = d;
            for (int m = 0; m <= 9; m++) {
                int mood = m;
                most[d] = Math.max(most[d], left.stream().filter(w -> w[day] == mood).count());
            }
            telling = most[d] < most[telling] ? d : telling;
        }
        return a[0] == 0 ? telling : most[telling];
    }

    private long known(List<int[]> left, int of) {
        if (!isDay(of)) {
            return NONE;
        }
        int bits = 0;
        for (int[] week : left) {
            bits |= 1 << week[of];
        }
        return bits;
    }

    private long sure(List<int[]> left, int from) {
        if (left.isEmpty()) {
            return NONE;
        }
        for (int d = from; d < lock.days; d++) {
            int day = d;
            if (!left.stream().allMatch(w -> w[day] == left.get(0)[day])) {
                return d - from;
            }
        }
        return lock.days - from;
    }
}

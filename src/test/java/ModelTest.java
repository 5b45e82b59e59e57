import java.util.ArrayList;
import java.util.List;
import java.util.Random;

/** Random runs of calls on a keeper and on the model: each answer is the same. */
public final class ModelTest {
    private static final int RUNS = 400;
    private static final int CALLS = 200;
    private static final String[] QUERIES = {"fault", "has", "day", "told", "does", "kept", "weeks", "mood", "many",
        "hushed", "wished", "lies", "later", "ring", "frees", "pay", "paid", "rest", "unlike", "known", "sure", "heard",
        "tells", "same", "octet", "status"};
    private static final String[] ACTS = {"set", "mute", "go", "chance", "undo", "seed", "image"};
    private static int cut = 0;
    private static final String[] SIGNS = {"+", "-", "*", "/"};

    private final Random random;
    private final SameKeeper keeper = new SameKeeper();
    private final Model model = new Model();
    private final List<String> told = new ArrayList<>();
    private final boolean calm;
    private final boolean wide;
    private boolean wrong = false;
    private int days = 2;

    private ModelTest(long seed) {
        random = new Random(seed);
        calm = seed % 3 == 0;
        wide = seed % 4 == 0;
    }

    public static void main(String[] args) {
        long from = args.length > 0 ? Long.parseLong(args[0]) : 1;
        long runs = args.length > 1 ? Long.parseLong(args[1]) : RUNS;
        int wrong = 0;
        for (long seed = from; seed < from + runs; seed++) {
            wrong += new ModelTest(seed).run() ? 0 : 1;
        }
        System.out.println(cut + " runs were cut short: more weeks agreed than the model tells");
        System.out.println(wrong == 0 ? runs + " random runs are as the model tells" : wrong + " runs are not");
        if (wrong != 0) {
            System.exit(1);
        }
    }

    private boolean run() {
        try {
            for (int i = 0; i < CALLS && !wrong; i++) {
                step();
            }
        } catch (Model.TooMany e) {
            // a run ends where the model tells no more
            cut++;
        }
        return !wrong;
    }

    private void both(String name, int... a) {
        long due = model.call(name, a);
        long got = Calls.call(keeper, name, a);
        StringBuilder line = new StringBuilder(name).append('(');
        for (int v : a) {
            line.append(line.charAt(line.length() - 1) == '(' ? "" : ", ").append(v);
        }
        told.add(line.append(") ").append(got).toString());
        if (got != due && !wrong) {
            wrong = true;
            told.forEach(System.out::println);
            System.out.println("due is " + due);
        }
    }

    private void put(int... bytes) {
        if (random.nextInt(20) != 0) {
            both("end", 0);
        }
        for (int[] feed : Calls.feedsOf(bytes)) {
            both("feed", feed);
        }
        both("end", bytes.length);
    }

    private void putText(String text) {
        told.add("text: " + text);
        put(Calls.bytesOf(text));
    }

    private void step() {
        // in calm runs one lock stays, so that much is kept and undone
        int kind = calm && keeper.has(0) > 0 ? 10 + random.nextInt(90) : random.nextInt(100);
        if (calm && kind >= 20 && kind < 23 && random.nextInt(8) != 0) {
            kind = 30;
        }
        if (kind < 6 || kind < 90 && keeper.has(0) == 0 && random.nextInt(3) != 0) {
            String text = lockText();
            putText(random.nextInt(4) == 0 ? spoilt(text) : text);
            both("lock");
            days = Math.max(2, keeper.has(0));
        } else if (kind < 16) {
            String text = question();
            putText(random.nextInt(4) == 0 ? spoilt(text) : text);
            both("ask");
        } else if (kind < 20) {
            hear();
        } else if (kind < 23) {
            image();
        } else if (kind < 45) {
            query(ACTS[random.nextInt(ACTS.length)]);
        } else {
            query(QUERIES[random.nextInt(QUERIES.length)]);
        }
        if (random.nextInt(10) == 0) {
            both("fault", 0);
            both("fault", 1);
        }
    }

    private void query(String name) {
        int[] a = new int[Calls.parametersOf(name)];
        for (int i = 0; i < a.length; i++) {
            a[i] = number(name, i);
        }
        both(name, a);
    }

    private int number(String name, int which) {
        int odd = random.nextInt(60);
        if (odd == 0) {
            return Integer.MIN_VALUE;
        }
        if (odd == 1) {
            return Integer.MAX_VALUE;
        }
        switch (name) {
            case "same":
                return random.nextInt(1444) - 2;
            case "seed":
                return random.nextInt();
            case "chance":
                return random.nextInt(5) == 0 ? random.nextInt(34) - 1 : random.nextInt(4);
            case "later":
                return random.nextInt(34) - 1;
            case "mood":
                return which == 0 ? few() : random.nextInt(days + 2) - 1;
            case "unlike":
                return few();
            case "octet":
                return random.nextInt(18) - 1;
            case "kept":
                return which == 0 ? random.nextInt(keeper.has(4) + 2) - 1 : random.nextInt(5) - 1;
            case "has":
                return random.nextInt(9) - 1;
            case "mute":
                return which == 0 ? random.nextInt(days) : random.nextInt(random.nextInt(9) == 0 ? 3 : 2);
            case "known":
            case "sure":
                return which == 1 ? likelyWord() : random.nextInt(random.nextInt(9) == 0 ? days + 1 : days);
            case "wished":
                return which == 0 ? random.nextInt(days) : random.nextInt(random.nextInt(9) == 0 ? 12 : 10);
            case "set":
                return which == 0 ? random.nextInt(days) : random.nextInt(which == 1 ? 2 : 11);
            default:
                return random.nextInt(3) == 0 ? random.nextInt(13) - 1 : random.nextInt(days);
        }
    }

    private int likelyWord() {
        int d = random.nextInt(days);
        return random.nextInt(4) == 0 ? random.nextInt(12) - 1 : keeper.told(d, Math.max(0, keeper.mood(0, d)));
    }

    private int few() {
        long weeks = Math.max(0, Calls.call(keeper, "weeks"));
        return random.nextInt((int) weeks + 3) - 1;
    }

    private void hear() {
        int[] rows = new int[random.nextInt(12) == 0 ? random.nextInt(38) : 2 * (1 + random.nextInt(2))];
        for (int i = 0; i < rows.length; i++) {
            rows[i] = i % 2 == 0 ? random.nextInt(random.nextInt(9) == 0 ? 6 : days) : random.nextInt(11);
            if (i % 2 == 1 && random.nextInt(2) == 0) {
                rows[i] = Math.max(0, keeper.told(rows[i - 1], Math.max(0, keeper.mood(0, rows[i - 1]))));
            }
        }
        put(rows);
        both("hear");
    }

    private void image() {
        both("image");
        int length = 0;
        while (keeper.octet(length) >= 0) {
            length++;
        }
        int[] bytes = new int[length];
        for (int i = 0; i < length; i++) {
            bytes[i] = keeper.octet(i);
        }
        if (random.nextInt(3) != 0) {
            bytes[0] = random.nextInt(4) + random.nextInt(2);
            bytes[1] = random.nextInt(3) == 0 ? random.nextInt(256) : 215 + random.nextInt(20);
        }
        if (random.nextInt(2) == 0) {
            bytes[2 + random.nextInt(length - 2)] = random.nextInt(11);
        }
        if (random.nextInt(8) != 0) {
            int check = 139;
            for (int i = 0; i < length - 1; i++) {
                check = (3 * check + bytes[i]) % 251;
            }
            bytes[length - 1] = check;
        }
        put(random.nextInt(8) == 0 ? java.util.Arrays.copyOf(bytes, length + random.nextInt(3) - 1) : bytes);
        both("on");
    }

    private String lockText() {
        int n = random.nextInt(12) == 0 ? 4 : 2 + random.nextInt(2);
        if (wide) {
            n = 5 + random.nextInt(5);
        }
        StringBuilder text = new StringBuilder();
        text.append("lock ").append(n).append(" from ").append(random.nextInt(10)).append(';').append(gap());
        if (random.nextInt(60) == 0) {
            for (int i = 0; i < 50 + random.nextInt(11); i++) {
                text.append("rain ").append(random.nextInt(101)).append(';').append(gap());
            }
        }
        boolean[] mute = new boolean[n];
        int many = random.nextInt(9);
        for (int i = 0; i < many; i++) {
            int d = random.nextInt(n);
            switch (random.nextInt(5)) {
                case 0:
                case 1:
                    text.append("barge ").append(d).append(' ').append(random.nextInt(10));
                    break;
                case 2:
                    text.append("wet ").append(d).append(' ').append(random.nextInt(10));
                    break;
                case 3:
                    text.append(mute[d] ? "rain 20" : "mute " + d);
                    mute[d] = true;
                    break;
                default:
                    text.append("rain ").append(random.nextInt(101));
            }
            text.append(gap()).append(';').append(gap());
        }
        String[] own = {"mood", "mood", "barge", "wet", "day", "week", "mood*mood", "5*mood"};
        String[] deed = {"mood", "barge", "wet", "day", "week", "told", "told", "alone", "told*told", "5*told", "6*told"};
        if (wide && random.nextInt(8) != 0) {
            return text.append(fewWeeks()).toString();
        }
        if (random.nextInt(3) != 0) {
            text.append("says ").append(random.nextBoolean() ? "mood+" : "").append(sum(own, 2)).append(';');
        }
        if (random.nextInt(4) != 0) {
            text.append("does ").append(random.nextBoolean() ? "told+" : "").append(sum(deed, 2)).append(';');
        }
        if (random.nextInt(3) != 0) {
            text.append("wage ").append(sum(own, 2)).append(';').append(gap());
        }
        return text.toString();
    }

    /** Sums by which each day has 0, 1 or 2 moods behind the one ahead of it, so that the model tells of nine days. */
    private String fewWeeks() {
        int said = 1 + random.nextInt(9);
        int heeded = random.nextInt(10);
        while ((said * heeded - 1) % 5 == 0) {
            heeded = random.nextInt(10);
        }
        String says = "says " + said + "*mood+barge*" + random.nextInt(4) + ";";
        String does = "does told*" + heeded + "+mood*" + random.nextInt(10) + "+wet+day*" + random.nextInt(5)
            + (random.nextBoolean() ? "+week" : "") + (random.nextBoolean() ? "+alone*" + random.nextInt(10) : "") + ";";
        String wage = "wage mood*" + random.nextInt(12) + "-mood*mood+barge*day;";
        return says + gap() + does + (random.nextInt(3) == 0 ? "" : wage);
    }

    private String gap() {
        return random.nextInt(4) == 0 ? random.nextInt(3) == 0 ? "\n" : "  " : "";
    }

    private String sum(String[] names, int depth) {
        StringBuilder text = new StringBuilder(part(names, depth));
        for (int i = random.nextInt(4); i > 0; i--) {
            text.append(gap()).append(SIGNS[random.nextInt(4)]).append(gap()).append(part(names, depth));
        }
        return text.toString();
    }

    private String part(String[] names, int depth) {
        int kind = random.nextInt(depth > 0 ? 9 : 6);
        if (kind < 2) {
            return Integer.toString(random.nextInt(random.nextInt(5) == 0 ? 10000 : 12));
        }
        if (kind < 6) {
            String name = names[random.nextInt(names.length)];
            return name.equals("weeks") ? "weeks " + part(names, depth - 1) : name;
        }
        if (kind == 6) {
            return "(" + gap() + sum(names, depth - 1) + ")";
        }
        return (kind == 7 ? "min" : "max") + gap() + "(" + sum(names, depth - 1) + gap() + "," + sum(names, depth - 1) + ")";
    }

    private static final String[] ASKED = {"number", "barge", "wet", "mute", "first", "week", "weeks"};

    private String question() {
        int kind = random.nextInt(6);
        String[] verbs = {"first", "last", "often", "total", "most", "least"};
        return gap() + verbs[kind] + " " + (kind < 3 ? test(3) : sum(ASKED, 3)) + gap();
    }

    private String test(int depth) {
        StringBuilder text = new StringBuilder(fact(depth));
        for (int i = random.nextInt(3); i > 0; i--) {
            text.append(random.nextBoolean() ? " or " : " and ").append(fact(depth));
        }
        return text.toString();
    }

    private String fact(int depth) {
        int kind = random.nextInt(depth > 0 ? 7 : 4);
        switch (kind) {
            case 0:
                return "all";
            case 4:
            case 5:
                return "not " + fact(depth - 1);
            case 6:
                return "[" + gap() + test(depth - 1) + "]";
            default:
                return sum(ASKED, depth) + gap() + "<>=".charAt(random.nextInt(3)) + gap() + sum(ASKED, depth);
        }
    }

    private static final String[] SCRAPS = {" ", "\n", "(", ")", "[", "]", "not ", "weeks ", ";", ",", "0", "9", "12345",
        "7", "lock ", "says ", "does mood;", "wage 1;", "mute 0;", "all", " or ", " and ", "min(", "max (", "told", "alone",
        "mood", "x", "A", "\t", "\u00e4", "<", "=", "+", "*", "first ", "last ", "rain 101;", "barge 9 9;", "weeks"};

    private String spoilt(String text) {
        StringBuilder spoilt = new StringBuilder(text);
        for (int i = 1 + random.nextInt(2); i > 0; i--) {
            int at = random.nextInt(spoilt.length() + 1);
            switch (random.nextInt(4)) {
                case 0:
                    spoilt.setLength(at);
                    break;
                case 1:
                    spoilt.delete(at, Math.min(spoilt.length(), at + 1 + random.nextInt(3)));
                    break;
                case 2:
                    String scrap = SCRAPS[random.nextInt(SCRAPS.length)];
                    spoilt.insert(at, scrap.repeat(random.nextInt(4) == 0 ? 7 : 1));
                    break;
                default:
                    spoilt.insert(at, SCRAPS[random.nextInt(SCRAPS.length)]);
            }
        }
        return spoilt.toString();
    }
}

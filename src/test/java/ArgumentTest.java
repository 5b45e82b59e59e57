import java.util.ArrayList;
import java.util.List;

/** Every call with every mixture of near, far and wrong arguments, in some states, as the model answers it. */
public final class ArgumentTest {
    private static final Due DUE = new Due();
    private static final int[] ODD = {Integer.MIN_VALUE, -1, 0, 1, 2, 6, 9, 10, 30, 31, 32, Integer.MAX_VALUE};
    private static final String[] CALLS = {"end", "lock", "fault", "has", "day", "told", "does", "kept", "weeks", "mood", "many",
        "hushed", "wished", "lies", "later", "ring", "frees", "pay", "paid", "rest", "unlike", "known", "sure", "hear", "heard",
        "tells", "same", "set", "mute", "go", "chance", "undo", "seed", "ask", "image", "octet", "on", "status"};
    /** An object is used for 512 calls. */
    private static final int MOST_CALLS = 500;

    private final String text;
    private SameKeeper keeper;
    private Model model;
    private int made;

    private ArgumentTest(String text) {
        this.text = text;
        begin();
    }

    public static void main(String[] args) {
        String[] texts = {"", "lock 2 from 3;", "lock 2 from 0;does told+1;",
            "lock 2 from 9;barge 0 9;wet 1 9;mute 1;says mood*3+barge;does told*7+mood-wet+alone*4+week;wage mood*mood-9*barge;rain 50;"};
        for (String text : texts) {
            for (String name : CALLS) {
                new ArgumentTest(text).callAll(name);
            }
        }
        DUE.end();
    }

    private void begin() {
        keeper = new SameKeeper();
        model = new Model();
        made = 0;
        if (!text.isEmpty()) {
            for (int[] feed : Calls.feedsOf(Calls.bytesOf(text))) {
                both("feed", feed);
            }
            both("end", text.length());
            both("lock");
            both("go");
            both("image");
        }
    }

    private void both(String name, int... a) {
        made++;
        DUE.is(text + " " + name + java.util.Arrays.toString(a), Calls.call(keeper, name, a), model.call(name, a));
    }

    private void callAll(String name) {
        for (int[] a : mixtures(Calls.parametersOf(name))) {
            both(name, a);
            if (made > MOST_CALLS) {
                begin();
            }
        }
        for (int what = 0; what <= 6; what++) {
            both("has", what);
            both("status", what);
        }
    }

    private static List<int[]> mixtures(int count) {
        List<int[]> all = new ArrayList<>();
        all.add(new int[count]);
        for (int at = 0; at < count; at++) {
            List<int[]> more = new ArrayList<>();
            for (int[] a : all) {
                for (int odd : ODD) {
                    int[] b = a.clone();
                    b[at] = odd;
                    more.add(b);
                }
            }
            all = more;
        }
        return all;
    }
}

import java.io.IOException;
import java.nio.file.Files;
import java.nio.file.Path;
import java.util.Set;
import java.util.TreeSet;

/** Answers that are due by a sentence of the document; the sentence itself is looked up there. */
final class Sentences {
    static final int TERMS = 0;
    private static final Path DOCUMENT = Path.of("../shared/DOC.md");

    private final String document;
    private final Due due = new Due();
    private final Set<Integer> cited = new TreeSet<>();
    private String label = "";

    Sentences() {
        document = read();
    }

    /** Where the document is not at hand the answers are due all the same, but no words are looked up. */
    private static String read() {
        try {
            return Files.readString(DOCUMENT).replaceAll("\\s+", " ");
        } catch (IOException e) {
            System.out.println("no document at " + DOCUMENT + ": its words are not looked up");
            return "";
        }
    }

    /** What follows is due by these words of a promise, or of the terms. */
    void of(int promise, String words) {
        label = (promise == TERMS ? "Terms" : "Promise " + promise) + ", \"" + words + "\": ";
        if (!document.isEmpty()) {
            due.is(label + "the document has these words", partOf(promise).contains(words), true);
        }
        cited.add(promise);
    }

    private String partOf(int promise) {
        int from = document.indexOf(promise == TERMS ? "## What it is" : "## Promise " + promise + ":");
        int to = document.indexOf("## Promise " + (promise + 1) + ":");
        return document.substring(from, to < 0 ? document.length() : to);
    }

    void is(String what, long got, long want) {
        due.is(label + what, got, want);
    }

    void is(String what, boolean got, boolean want) {
        due.is(label + what, got, want);
    }

    void is(String what, String got, String want) {
        due.is(label + what + " " + got + " as " + want, got.equals(want), true);
    }

    /** A lock of its own by this text has the fault at the place; fault 0 has none. */
    void lockFault(String text, int kind, int place) {
        SameKeeper x = new SameKeeper();
        is("lock() of " + text, Calls.lock(x, text) == SameKeeper.NONE, kind != 0);
        is("fault(0) of " + text, x.fault(0), kind);
        is("fault(1) of " + text, x.fault(1), place);
        is("status(1) of " + text, x.status(1), kind == 0 ? 0 : 1);
    }

    void lockHolds(String text) {
        lockFault(text, 0, SameKeeper.NONE);
    }

    /** A question to this keeper has the fault at the place. */
    void questionFault(SameKeeper x, String text, int kind, int place) {
        is("ask() of " + text, Calls.ask(x, text) == SameKeeper.NOTHING, kind != 0);
        is("fault(0) of " + text, x.fault(0), kind);
        is("fault(1) of " + text, x.fault(1), place);
    }

    /** Each of these promises has been cited. */
    void end(int... promises) {
        label = "";
        for (int promise : promises) {
            due.is("promise " + promise + " is cited", cited.contains(promise), true);
        }
        due.end();
    }
}

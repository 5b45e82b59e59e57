import java.io.IOException;
import java.nio.file.Files;
import java.nio.file.Path;
import java.util.ArrayList;
import java.util.List;
import java.util.regex.Matcher;
import java.util.regex.Pattern;

/** What README.md shows is so: its calls answer as it tells, its texts have no fault, it names every call. */
public final class ReadmeTest {
    private static final Due DUE = new Due();

    public static void main(String[] args) throws IOException {
        String page = Files.readString(Path.of("README.md"));
        calls(blockOf(page, "java"));
        texts(blockOf(page, "lock"), blockOf(page, "question"));
        names(page);
        DUE.end();
    }

    private static String blockOf(String page, String kind) {
        Matcher m = Pattern.compile("(?s)```" + kind + "\n(.*?)```").matcher(page);
        DUE.is("the page has a block of " + kind, m.find(), true);
        return m.group(1);
    }

    private static void calls(String block) {
        SameKeeper keeper = new SameKeeper();
        Matcher m = Pattern.compile("keeper\\.(\\w+)\\((.*?)\\);\\s*// (true|-?\\d+|\")").matcher(block);
        int made = 0;
        while (m.find()) {
            List<Integer> numbers = new ArrayList<>();
            for (String number : m.group(2).split(",")) {
                if (!number.isBlank()) {
                    numbers.add(Long.decode(number.trim()).intValue());
                }
            }
            long answer = Calls.call(keeper, m.group(1), numbers.stream().mapToInt(n -> n).toArray());
            String told = m.group(3);
            if (!told.equals("\"")) {
                DUE.is(m.group(), answer, told.equals("true") ? 1 : Long.parseLong(told));
            }
            made++;
        }
        DUE.is("calls that the page shows", made, block.split("keeper\\.").length - 1);
    }

    private static void texts(String lock, String questions) {
        SameKeeper keeper = new SameKeeper();
        DUE.is("the lock of the page", Calls.lock(keeper, lock), lock.split(";").length - 1);
        for (String question : questions.split("\n")) {
            Calls.ask(keeper, question);
            DUE.is(question, keeper.fault(0), 0);
        }
    }

    private static void names(String page) {
        for (java.lang.reflect.Method m : SameKeeper.class.getDeclaredMethods()) {
            if (java.lang.reflect.Modifier.isPublic(m.getModifiers())) {
                DUE.is("the page names " + m.getName(), page.contains("`" + m.getName() + "`"), true);
            }
        }
    }
}

import java.io.IOException;
import java.lang.reflect.Constructor;
import java.lang.reflect.Field;
import java.lang.reflect.Method;
import java.lang.reflect.Modifier;
import java.nio.file.Files;
import java.nio.file.Path;
import java.util.ArrayList;
import java.util.List;
import java.util.Set;
import java.util.TreeSet;
import java.util.regex.Matcher;
import java.util.regex.Pattern;

/** The public face as the document writes it, and what LANGUAGE.md rules out and a text search can see. */
public final class FaceTest {
    private static final Due DUE = new Due();
    private static final Path SOURCE = Path.of("src/main/java/SameKeeper.java");
    private static final String[] FACE = {
        "int feed(int, int, int, int, int)", "boolean end(int)", "int lock()", "int fault(int)", "int has(int)",
        "int day(int, int)", "int told(int, int)", "int does(int, int, int)", "long kept(int, int)", "long weeks()",
        "int mood(int, int)", "long many(int, int)", "int hushed()", "int wished(int, int)", "int lies()",
        "int later(int)", "int ring()", "int frees(int, int)", "long pay()", "int paid(int)", "int rest()",
        "int unlike(int, int)", "int known(int, int, int)", "int sure(int, int)", "int hear()", "long heard()",
        "long tells(int)", "int same(int, int)", "boolean set(int, int, int)", "boolean mute(int, int)", "int go()",
        "int chance(int)", "boolean undo()", "boolean seed(int)", "long ask()", "int image()", "int octet(int)",
        "boolean on()", "int status(int)"};

    public static void main(String[] args) throws IOException {
        face();
        inside();
        words();
        DUE.end();
    }

    private static void face() {
        Set<String> found = new TreeSet<>();
        for (Method m : SameKeeper.class.getDeclaredMethods()) {
            if (!Modifier.isPrivate(m.getModifiers())) {
                StringBuilder line = new StringBuilder(m.getReturnType().getName()).append(' ').append(m.getName());
                List<String> types = new ArrayList<>();
                for (Class<?> type : m.getParameterTypes()) {
                    types.add(type.getName());
                }
                found.add(line.append('(').append(String.join(", ", types)).append(')').toString());
            }
        }
        DUE.is("the methods " + found, found.equals(new TreeSet<>(List.of(FACE))), true);
        Set<String> fields = new TreeSet<>();
        for (Field f : SameKeeper.class.getDeclaredFields()) {
            if (!Modifier.isPrivate(f.getModifiers())) {
                fields.add(Modifier.toString(f.getModifiers()) + " " + f.getType().getName() + " " + f.getName());
            }
        }
        DUE.is("the constants " + fields, fields.equals(new TreeSet<>(List.of(
            "public static final int NONE", "public static final long NOTHING"))), true);
        Constructor<?>[] made = SameKeeper.class.getDeclaredConstructors();
        DUE.is("one constructor", made.length, 1);
        DUE.is("it is public", Modifier.isPublic(made[0].getModifiers()), true);
        DUE.is("the class is public and final", SameKeeper.class.getModifiers() & 0xff, Modifier.PUBLIC | Modifier.FINAL);
    }

    private static void inside() {
        Set<String> names = new TreeSet<>();
        for (String line : FACE) {
            names.add(line.substring(line.indexOf(' ') + 1, line.indexOf('(')));
        }
        Class<?>[] classes = SameKeeper.class.getDeclaredClasses();
        DUE.is("some twelve classes", classes.length <= 11, true);
        for (Class<?> c : classes) {
            DUE.is(c.getName() + " is static", Modifier.isStatic(c.getModifiers()), true);
            DUE.is(c.getName() + " is not public", Modifier.isPublic(c.getModifiers()), false);
            for (Method m : c.getDeclaredMethods()) {
                DUE.is(c.getName() + "." + m.getName() + " bears a name of the face", names.contains(m.getName()), false);
                DUE.is(m.getName() + " takes few", m.getParameterCount() <= 7, true);
            }
            int fields = 0;
            for (Field f : c.getDeclaredFields()) {
                boolean still = Modifier.isStatic(f.getModifiers());
                DUE.is(f + " is final if it is static", !still || Modifier.isFinal(f.getModifiers()), true);
                fields += still ? 0 : 1;
            }
            DUE.is(c.getName() + " has few fields", fields <= 20, true);
        }
    }

    private static void words() throws IOException {
        String source = Files.readString(SOURCE);
        String code = source.replaceAll("\"[^\"]*\"", "\"\"").replaceAll("//[^\n]*", "").replaceAll("(?s)/\\*.*?\\*/", "");
        String[] never = {"\\bthrow\\b", "\\btry\\b", "\\bcatch\\b", "\\bsynchronized\\b", "\\bassert\\b", "->", "::",
            "Exact\\b", "\\bpackage\\b", "\\bRandom\\b", "\\bThread\\b", "\\bObject\\b", "\\bhashCode\\b", "\\btoString\\b",
            "\\bSystem\\.(?!arraycopy)", "\\bprotected\\b", "\\+ \"", "\" \\+", "static \\{"};
        for (String word : never) {
            Matcher m = Pattern.compile(word).matcher(code);
            DUE.is(word + " is in the code", m.find(), false);
        }
        Matcher imports = Pattern.compile("(?m)^import (.*);").matcher(code);
        while (imports.find()) {
            DUE.is("import " + imports.group(1), List.of("java.util.Arrays", "java.util.ArrayList", "java.util.List")
                .contains(imports.group(1)), true);
        }
        String[] lines = code.split("\n");
        int began = 0;
        for (int i = 0; i < lines.length; i++) {
            if (lines[i].matches(" {4}(?: {4})?\\w[^;=]*\\) \\{")) {
                began = i;
            }
            if (lines[i].matches(" {4}(?: {4})?\\}")) {
                DUE.is("the method that ends at line " + (i + 1) + " is short", i - began <= 60 || lines[began].contains("class"),
                    true);
            }
        }
        for (char c : source.toCharArray()) {
            if (c > 126) {
                DUE.is("a sign of the source", c, '?');
            }
        }
    }
}

import java.io.IOException;
import java.lang.reflect.Constructor;
import java.lang.reflect.Field;
import java.lang.reflect.Method;
import java.lang.reflect.Modifier;
import java.nio.file.Files;
import java.nio.file.Path;
import java.util.HashSet;
import java.util.Set;
import java.util.TreeSet;
import java.util.regex.Matcher;
import java.util.regex.Pattern;

/** The document's public face, and the rules of LANGUAGE.md that can be seen from outside. */
public final class FaceTest {
    private static final String[] FACE = {"weather II", "monthOf II", "now I", "ewe I", "of II", "fleece II", "can III",
        "scare II", "turn II", "as II", "cut III", "coatOf II", "unpick I", "months I", "on III", "then III",
        "enough II", "calm I", "kind II", "cold III", "best II", "bears III", "milder I", "warmest ", "feed II",
        "wipe ", "parish ", "sheet III", "write IIL", "copy IIIII", "lays I", "book II", "read II", "image ", "undo ",
        "tear ", "count I", "status I"};

    public static void main(String[] args) throws IOException {
        face();
        nested();
        source();
        limits();
        Due.end();
    }

    private static void face() {
        Class<?> type = ShornYear.class;
        Due.is("public and final", type.getModifiers() & (Modifier.PUBLIC | Modifier.FINAL),
            Modifier.PUBLIC | Modifier.FINAL);
        Set<String> due = new TreeSet<>(Set.of(FACE));
        Set<String> got = new TreeSet<>();
        Set<String> names = new HashSet<>();
        for (String line : FACE) {
            names.add(line.substring(0, line.indexOf(' ')));
        }
        for (Method m : type.getDeclaredMethods()) {
            if (Modifier.isPublic(m.getModifiers())) {
                got.add(line(m));
                Due.is(m + " answers its type", m.getReturnType() == (m.getName().equals("write") ? long.class : int.class)
                    ? 1 : 0, 1);
            } else {
                Due.is(m + " is private", Modifier.isPrivate(m.getModifiers()) ? 1 : 0, 1);
                Due.is(m + " has a name of its own", names.contains(m.getName()) ? 1 : 0, 0);
            }
        }
        if (!got.equals(due)) {
            Due.is("the face " + got, 0, 1);
        }
        for (Field f : type.getDeclaredFields()) {
            Due.is(f + " is private", Modifier.isPrivate(f.getModifiers()) ? 1 : 0, 1);
        }
        Constructor<?>[] made = type.getDeclaredConstructors();
        Due.is("one constructor", made.length, 1);
        Due.is("without parameters", made[0].getParameterCount(), 0);
    }

    private static String line(Method m) {
        StringBuilder line = new StringBuilder(m.getName()).append(' ');
        for (Class<?> p : m.getParameterTypes()) {
            line.append(p == int.class ? 'I' : p == long.class ? 'L' : '?');
        }
        return line.toString();
    }

    private static void nested() {
        Set<String> names = new HashSet<>();
        for (String line : FACE) {
            names.add(line.substring(0, line.indexOf(' ')));
        }
        for (Class<?> c : ShornYear.class.getDeclaredClasses()) {
            Due.is(c + " is static", Modifier.isStatic(c.getModifiers()) ? 1 : 0, 1);
            for (Method m : c.getDeclaredMethods()) {
                Due.is(m + " has a name of its own", names.contains(m.getName()) ? 1 : 0, 0);
            }
            for (Field f : c.getDeclaredFields()) {
                boolean changes = Modifier.isStatic(f.getModifiers()) && !Modifier.isFinal(f.getModifiers());
                Due.is(f + " is no static state", changes ? 1 : 0, 0);
            }
        }
    }

    /** Rule 11: seven parameters, some sixty lines a method, some twelve classes, some twenty fields a class. */
    private static void limits() throws IOException {
        Class<?>[] nested = ShornYear.class.getDeclaredClasses();
        Due.is("at most twelve classes", nested.length < 12 ? 1 : 0, 1);
        few(ShornYear.class);
        for (Class<?> c : nested) {
            few(c);
        }
        String start = "";
        int first = 0;
        int at = 0;
        for (String line : Files.readAllLines(Path.of("src/main/java/ShornYear.java"))) {
            at++;
            if (line.matches(" {4,8}[a-zA-Z].*\\) \\{") && !line.matches(" *(if|for|while|switch)\\b.*")) {
                start = line.substring(0, line.length() - line.stripLeading().length());
                first = at;
            }
            if (line.equals(start + "}")) {
                Due.is("the method of lines " + first + " to " + at + " is short", at - first < 60 ? 1 : 0, 1);
            }
        }
        Due.is("methods were seen", first > 0 ? 1 : 0, 1);
    }

    private static void few(Class<?> c) {
        int fields = 0;
        for (Field f : c.getDeclaredFields()) {
            fields += Modifier.isStatic(f.getModifiers()) ? 0 : 1;
        }
        Due.is(c + " has at most twenty fields", fields <= 20 ? 1 : 0, 1);
        for (Method m : c.getDeclaredMethods()) {
            Due.is(m + " takes at most seven", m.getParameterCount() <= 7 ? 1 : 0, 1);
        }
    }

    private static void source() throws IOException {
        String text = Files.readString(Path.of("src/main/java/ShornYear.java"));
        String code = text.replaceAll("(?s)/\\*.*?\\*/", " ").replaceAll("//[^\n]*", " ");
        String banned = "\\b(throw|throws|try|catch|synchronized|assert|package|volatile|native|Exact|Random|Thread"
            + "|Object|hashCode|NaN|MAX_VALUE|MIN_VALUE)\\b|->|::|Exact\\(|System\\.(?!arraycopy)|@";
        Matcher m = Pattern.compile(banned).matcher(code);
        while (m.find()) {
            Due.is("the source has '" + m.group() + "'", 1, 0);
        }
        Matcher imports = Pattern.compile("import ([^;]*);").matcher(code);
        while (imports.find()) {
            Due.is("imports " + imports.group(1), imports.group(1).equals("java.util.Arrays") ? 1 : 0, 1);
        }
        // What is made is made with the object, so that no call takes room.
        for (String line : code.split("\n")) {
            boolean withTheObject = line.contains(" final ") || line.matches(" *(sheets\\[s\\]|ewes\\[e\\]) = new .*");
            Due.is("made later: " + line, line.matches(".*\\bnew\\b.*") && !withTheObject ? 1 : 0, 0);
        }
    }
}

import java.io.IOException;
import java.lang.reflect.Constructor;
import java.lang.reflect.Field;
import java.lang.reflect.Method;
import java.lang.reflect.Modifier;
import java.nio.file.Files;
import java.nio.file.Path;
import java.util.Arrays;
import java.util.HashSet;
import java.util.Set;
import java.util.TreeSet;
import java.util.regex.Matcher;
import java.util.regex.Pattern;

/** The face of the class, and those rules of LANGUAGE.md that can be seen from the outside or in the text. */
public final class LanguageTest {
    private static final String[] FACE = {"row/3", "set/3", "copy/5", "drop/1", "feed/1", "hill/0", "fault/0", "years/1",
        "door/2", "build/3", "speed/1", "undo/0", "house/2", "at/2", "rests/1", "line/2", "left/1", "next/1", "often/2",
        "aim/3", "shun/3", "site/3", "sulks/0", "peace/1", "rolls/4", "sorts/4", "play/3", "drawn/3", "image/1",
        "restore/1", "kind/1", "as/2", "ask/2", "trace/1", "count/1", "status/0"};
    private static final String[] FORBIDDEN = {"\\bthrow\\b", "\\bthrows\\b", "\\btry\\b", "\\bcatch\\b",
        "\\bsynchronized\\b", "\\bassert\\b", "->", "::", "\\bimport\\b", "\\bpackage\\b", "\\bprotected\\b", "Exact\\b",
        "\\bstatic\\s*\\{", "\\bhashCode\\b", "\\btoString\\b", "\\bThread\\b", "\\bSystem\\.(?!arraycopy\\b)"};

    public static void main(String[] args) throws IOException {
        face();
        constants();
        nested();
        text();
        Check.end();
    }

    private static void face() {
        Set<String> due = new TreeSet<>(Arrays.asList(FACE));
        Set<String> there = new TreeSet<>();
        Set<String> names = new HashSet<>();
        for (Method m : SaintHill.class.getDeclaredMethods()) {
            if (!Modifier.isPrivate(m.getModifiers())) {
                there.add(m.getName() + "/" + m.getParameterCount());
                names.add(m.getName());
                Check.holds(m + " is public, of the object, and answers an int",
                        Modifier.isPublic(m.getModifiers()) && !Modifier.isStatic(m.getModifiers())
                                && m.getReturnType() == int.class);
            }
        }
        Check.holds("the methods are " + due + ", not " + there, due.equals(there));
        Check.holds("the class is public and final", Modifier.isPublic(SaintHill.class.getModifiers())
                && Modifier.isFinal(SaintHill.class.getModifiers()));
        Constructor<?>[] made = SaintHill.class.getDeclaredConstructors();
        Check.holds("one public constructor without parameters",
                made.length == 1 && made[0].getParameterCount() == 0 && Modifier.isPublic(made[0].getModifiers()));
        noPrivateNameTwice(SaintHill.class, names);
        for (Class<?> c : SaintHill.class.getDeclaredClasses()) {
            noPrivateNameTwice(c, names);
        }
    }

    private static void noPrivateNameTwice(Class<?> c, Set<String> names) {
        for (Method m : c.getDeclaredMethods()) {
            boolean own = c == SaintHill.class && !Modifier.isPrivate(m.getModifiers());
            Check.holds(m + " bears no name of the face", own || !names.contains(m.getName()));
            Check.holds(m + " has seven parameters at most", m.getParameterCount() <= 7);
        }
    }

    private static void constants() {
        Set<String> open = new TreeSet<>();
        for (Field f : SaintHill.class.getDeclaredFields()) {
            if (!Modifier.isPrivate(f.getModifiers())) {
                open.add(f.getName());
            }
        }
        Check.holds("the constants are those of the face", open.equals(new TreeSet<>(Set.of("NONE", "BAD", "STATE", "FULL"))));
        Check.due("NONE", SaintHill.NONE, Check.NONE);
        Check.due("BAD", SaintHill.BAD, Check.BAD);
        Check.due("STATE", SaintHill.STATE, Check.STATE);
        Check.due("FULL", SaintHill.FULL, Check.FULL);
    }

    private static void nested() {
        Class<?>[] inside = SaintHill.class.getDeclaredClasses();
        Check.holds("twelve classes at most", inside.length < 12);
        for (Class<?> c : inside) {
            Check.holds(c + " is static", Modifier.isStatic(c.getModifiers()));
            Check.holds(c + " is not public", !Modifier.isPublic(c.getModifiers()));
            int fields = 0;
            for (Field f : c.getDeclaredFields()) {
                boolean isStatic = Modifier.isStatic(f.getModifiers());
                Check.holds(f + " is final if it is static", !isStatic || Modifier.isFinal(f.getModifiers()));
                fields += isStatic ? 0 : 1;
            }
            Check.holds(c + " has twenty fields at most", fields <= 20);
        }
    }

    private static void text() throws IOException {
        String text = Files.readString(Path.of("src/main/java/SaintHill.java"));
        String code = text.replaceAll("(?s)/\\*.*?\\*/", "").replaceAll("//[^\n]*", "");
        for (String rule : FORBIDDEN) {
            Matcher m = Pattern.compile(rule).matcher(code);
            Check.holds("the text has no " + rule, !m.find());
        }
        int since = 0;
        for (String line : code.split("\n")) {
            since = line.matches(" {4}( {4})?[a-z].*\\{") ? 0 : since + 1;
            Check.holds("methods stay short, at: " + line, since <= 60 || line.isBlank());
        }
    }
}

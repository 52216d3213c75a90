import java.io.IOException;
import java.lang.reflect.Constructor;
import java.lang.reflect.Field;
import java.lang.reflect.Method;
import java.lang.reflect.Modifier;
import java.nio.file.Files;
import java.nio.file.Path;
import java.util.Arrays;
import java.util.Set;
import java.util.TreeSet;
import java.util.regex.Matcher;
import java.util.regex.Pattern;

/** The document's face, and those rules of LANGUAGE.md that can be seen by a plain look at the source. */
public final class LanguageTest {
    private static final Due due = new Due("LanguageTest");

    private static final String[] FACE = {
        "clear(int, int, int)", "share(int, int)", "kind(int, int, int)", "hint(int, int, int)", "ask(int, int)",
        "idle(int)", "told(int, int)", "reach(int)", "room(int, int)", "waiting(int, int)", "follows(int, int)",
        "house(int)", "foresight(int)", "keep(int)", "back(int)", "digest()"
    };
    private static final String[] CONSTANTS = {"NONE", "UNKNOWN", "OUTSIDE", "NOT"};

    private static final String[] FORBIDDEN = {
        "\\b(throw|throws|try|catch|finally|synchronized|assert|package|protected|double|float|native|volatile)\\b",
        "->", "::", "\\bstatic\\s*\\{", "\\w+Exact\\b",
        "\\b(Object|Thread|Random|Runtime|Class|Collections|Objects|Optional|Map|Set|Stream)\\b",
        "\\bimport (?!java\\.util\\.(Arrays|ArrayList|List);)",
        "\\bSystem\\.(?!arraycopy\\b)",
        "\\bArrays\\.(?!(copyOf|copyOfRange|fill)\\b)",
        "[^\\x00-\\xff]"
    };

    public static void main(String[] args) throws IOException {
        face();
        nestedClasses();
        source();
        due.end();
    }

    private static void face() {
        due.yes("the class is public and final", Modifier.isPublic(ReadAhead.class.getModifiers())
                && Modifier.isFinal(ReadAhead.class.getModifiers()));
        Constructor<?>[] constructors = ReadAhead.class.getDeclaredConstructors();
        due.yes("one public constructor without parameters", constructors.length == 1
                && Modifier.isPublic(constructors[0].getModifiers()) && constructors[0].getParameterCount() == 0);
        Set<String> seen = new TreeSet<>();
        Set<String> names = new TreeSet<>();
        for (Method m : ReadAhead.class.getDeclaredMethods()) {
            if (!Modifier.isPrivate(m.getModifiers())) {
                seen.add(said(m));
                names.add(m.getName());
                due.yes(m + " is public, answers an int, and is not static", Modifier.isPublic(m.getModifiers())
                        && m.getReturnType() == int.class && !Modifier.isStatic(m.getModifiers()));
            }
        }
        due.same("the methods", seen.toString(), new TreeSet<>(Arrays.asList(FACE)).toString());
        for (Method m : ReadAhead.class.getDeclaredMethods()) {
            due.yes(m + " bears no public one's name",
                    !Modifier.isPrivate(m.getModifiers()) || !names.contains(m.getName()));
        }
        constants();
    }

    private static String said(Method m) {
        String types = Arrays.toString(m.getParameterTypes());
        return m.getName() + "(" + types.substring(1, types.length() - 1) + ")";
    }

    private static void constants() {
        Set<String> seen = new TreeSet<>();
        for (Field f : ReadAhead.class.getDeclaredFields()) {
            if (!Modifier.isPrivate(f.getModifiers())) {
                seen.add(f.getName());
            }
            due.yes(f + " is static only if it is final",
                    !Modifier.isStatic(f.getModifiers()) || Modifier.isFinal(f.getModifiers()));
        }
        due.same("the constants", seen.toString(), new TreeSet<>(Arrays.asList(CONSTANTS)).toString());
        due.is("NONE", ReadAhead.NONE, -1);
        due.is("UNKNOWN", ReadAhead.UNKNOWN, -101);
        due.is("OUTSIDE", ReadAhead.OUTSIDE, -102);
        due.is("NOT", ReadAhead.NOT, -103);
    }

    private static void nestedClasses() {
        for (Class<?> c : ReadAhead.class.getDeclaredClasses()) {
            due.yes(c + " is static", Modifier.isStatic(c.getModifiers()));
            due.yes(c + " is not public", !Modifier.isPublic(c.getModifiers()));
            due.yes(c + " has no more than 20 fields", Arrays.stream(c.getDeclaredFields())
                    .filter(f -> !Modifier.isStatic(f.getModifiers())).count() <= 20);
            for (Method m : c.getDeclaredMethods()) {
                due.yes(m + " has no more than seven parameters", m.getParameterCount() <= 7);
            }
        }
        due.yes("no more than twelve classes", ReadAhead.class.getDeclaredClasses().length < 12);
    }

    private static void source() throws IOException {
        String text = Files.readString(Path.of("src/main/java/ReadAhead.java"));
        String code = text.replaceAll("(?s)/\\*.*?\\*/", "").replaceAll("//[^\n]*", "");
        for (String pattern : FORBIDDEN) {
            Matcher m = Pattern.compile(pattern).matcher(code);
            due.yes("no " + pattern + " in the source", !m.find());
        }
        due.yes("one public class", code.indexOf("public final class ReadAhead") >= 0
                && code.indexOf("public final class") == code.lastIndexOf("public final class"));
    }
}

import java.lang.reflect.Constructor;
import java.lang.reflect.Field;
import java.lang.reflect.Method;
import java.lang.reflect.Modifier;
import java.nio.charset.StandardCharsets;
import java.nio.file.Files;
import java.nio.file.Path;
import java.util.Set;
import java.util.TreeSet;

/** The public face, and those rules of LANGUAGE.md that can be looked at from outside. */
public final class FaceTest {
    private static final String[] METHODS = {"closure/3", "cover/2", "error/2", "facts/1", "image/1", "left/1", "lift/1",
        "missed/1", "phase/2", "put/1", "restore/1", "ruler/2", "sky/2", "spacing/1", "stand/3", "station/1", "sure/0",
        "told/1", "undo/0"};
    private static final String[] FORBIDDEN = {"\\bthrow\\b", "\\btry\\b", "\\bcatch\\b", "\\bsynchronized\\b",
        "\\bassert\\b", "->", "::", "\\bimport\\b", "\\bpackage\\b", "static \\{", "Exact\\(", "\\bequals\\(",
        "\\bhashCode\\(", "\\btoString\\(", "while \\(true\\)", "for \\(;;\\)", "[^\\x00-\\x7f]"};

    public static void main(String[] args) throws Exception {
        constants();
        methods();
        nested();
        source();
        Check.end();
    }

    private static void constants() throws Exception {
        String[] names = {"UNKNOWN", "OUTSIDE", "STATE", "FULL", "NO", "NONE"};
        for (int i = 0; i < names.length; i++) {
            Field field = SparseDishes.class.getField(names[i]);
            Check.due(names[i], field.getInt(null), -1 - i);
        }
        for (Field field : SparseDishes.class.getDeclaredFields()) {
            if (!Set.of(names).contains(field.getName())) {
                Check.holds(field.getName() + " is private", Modifier.isPrivate(field.getModifiers()));
            }
        }
    }

    private static void methods() {
        Set<String> open = new TreeSet<>();
        Set<String> openNames = new TreeSet<>();
        for (Method m : SparseDishes.class.getDeclaredMethods()) {
            if (Modifier.isPrivate(m.getModifiers()) || m.isSynthetic()) continue;
            open.add(m.getName() + "/" + m.getParameterCount());
            openNames.add(m.getName());
            Check.holds(m + " is public, and answers int", Modifier.isPublic(m.getModifiers())
                && !Modifier.isStatic(m.getModifiers()) && m.getReturnType() == int.class);
        }
        Check.holds("the methods are those of the document: " + open, open.equals(new TreeSet<>(Set.of(METHODS))));
        noOtherBearsAName(SparseDishes.class, openNames, false);
        for (Class<?> inside : SparseDishes.class.getDeclaredClasses()) noOtherBearsAName(inside, openNames, true);
        Constructor<?>[] all = SparseDishes.class.getConstructors();
        Check.due("constructors", all.length, 1);
        Check.due("what the constructor takes", all[0].getParameterCount(), 0);
        Check.holds("it is public and final", Modifier.isPublic(SparseDishes.class.getModifiers())
            && Modifier.isFinal(SparseDishes.class.getModifiers()));
    }

    private static void noOtherBearsAName(Class<?> where, Set<String> names, boolean allOfThem) {
        for (Method m : where.getDeclaredMethods()) {
            if (!allOfThem && !Modifier.isPrivate(m.getModifiers())) continue;
            Check.holds(m + " does not bear the name of a public one", !names.contains(m.getName()));
        }
    }

    private static void nested() {
        Class<?>[] inside = SparseDishes.class.getDeclaredClasses();
        Check.holds("at most some twelve classes", inside.length <= 11);
        for (Class<?> c : inside) {
            Check.holds(c + " is static, and not public", Modifier.isStatic(c.getModifiers())
                && !Modifier.isPublic(c.getModifiers()) && !Modifier.isProtected(c.getModifiers()));
        }
        for (Class<?> c : inside) staticsAreConstants(c);
        staticsAreConstants(SparseDishes.class);
    }

    private static void staticsAreConstants(Class<?> c) {
        for (Field f : c.getDeclaredFields()) {
            if (Modifier.isStatic(f.getModifiers())) Check.holds(f + " is final", Modifier.isFinal(f.getModifiers()));
        }
    }

    private static void source() throws Exception {
        Path path = Path.of("src/main/java/SparseDishes.java");
        String text = Files.readString(path, StandardCharsets.ISO_8859_1);
        String code = text.replaceAll("(?s)/\\*.*?\\*/", "").replaceAll("//[^\n]*", "");
        for (String word : FORBIDDEN) {
            Check.holds("the program is without " + word, !java.util.regex.Pattern.compile(word).matcher(code).find());
        }
    }
}

import java.lang.reflect.Constructor;
import java.lang.reflect.Field;
import java.lang.reflect.Method;
import java.lang.reflect.Modifier;
import java.nio.charset.StandardCharsets;
import java.nio.file.Files;
import java.nio.file.Path;
import java.util.Set;
import java.util.TreeSet;
import java.util.regex.Pattern;

/** The public face, and those rules of LANGUAGE.md that can be looked at from outside. */
public final class FaceTest {
    private static final String[] METHODS = {"closure/3", "cover/2", "error/2", "facts/1", "image/1", "left/1",
        "lift/1", "missed/1", "phase/2", "put/1", "restore/1", "ruler/2", "sky/2", "spacing/1", "stand/3", "station/1",
        "sure/0", "told/1", "undo/0"};
    private static final String[] CONSTANTS = {"UNKNOWN", "OUTSIDE", "STATE", "FULL", "NO", "NONE"};
    /** An arrow is fine behind case and default alone: anywhere else it is that of a lambda. */
    private static final String[] FORBIDDEN = {"\\bthrow\\b", "\\btry\\b", "\\bcatch\\b", "\\bsynchronized\\b",
        "\\bassert\\b", "(?m)^(?!\\s*(case\\b|default\\b)).*->", "::", "\\bpackage\\b", "static \\{", "Exact\\(",
        "\\bhashCode\\(", "while \\(true\\)", "for \\(;;\\)", "[^\\x00-\\x7f]"};

    public static void main(String[] args) {
        Check.run(FaceTest.class);
    }

    static void theConstants() throws Exception {
        Check.sentence("Terms 4", "The constants: `UNKNOWN = -1, OUTSIDE = -2, STATE = -3, FULL = -4, NO = -5, "
            + "NONE = -6`: What refused calls answer; NONE: there is none.");
        for (int i = 0; i < CONSTANTS.length; i++) {
            Field field = SparseDishes.class.getField(CONSTANTS[i]);
            Check.due(CONSTANTS[i], field.getInt(null), -1 - i);
            Check.holds(CONSTANTS[i] + " is static and final", Modifier.isStatic(field.getModifiers())
                && Modifier.isFinal(field.getModifiers()) && field.getType() == int.class);
        }
    }

    static void theMethods() {
        Check.sentence("The public face", "public final class SparseDishes");
        Set<String> open = new TreeSet<>();
        for (Method m : SparseDishes.class.getDeclaredMethods()) {
            if (Modifier.isPrivate(m.getModifiers()) || m.isSynthetic()) continue;
            open.add(m.getName() + "/" + m.getParameterCount());
            Check.holds(m + " is public, takes ints and answers int", Modifier.isPublic(m.getModifiers())
                && !Modifier.isStatic(m.getModifiers()) && m.getReturnType() == int.class && takesInts(m));
        }
        Check.holds("the methods are those of the document: " + open, open.equals(new TreeSet<>(Set.of(METHODS))));
    }

    static void theClassAndItsConstructor() {
        Check.sentence("The public face", "public final class SparseDishes");
        Constructor<?>[] all = SparseDishes.class.getConstructors();
        Check.due("constructors", all.length, 1);
        Check.due("what the constructor takes", all[0].getParameterCount(), 0);
        Check.holds("it is public and final", Modifier.isPublic(SparseDishes.class.getModifiers())
            && Modifier.isFinal(SparseDishes.class.getModifiers()));
    }

    static void noPrivateMethodBearsTheNameOfAPublicOne() {
        Check.sentence("LANGUAGE.md 1", "No private method bears the name of a public one.");
        Set<String> names = new TreeSet<>();
        for (String method : METHODS) names.add(method.substring(0, method.indexOf('/')));
        noPrivateOneBears(names, SparseDishes.class);
        for (Class<?> inside : SparseDishes.class.getDeclaredClasses()) noPrivateOneBears(names, inside);
    }

    static void fieldsAreClosed() {
        Check.sentence("LANGUAGE.md 1", "no other public, protected or package-visible member");
        for (Field field : SparseDishes.class.getDeclaredFields()) {
            if (Set.of(CONSTANTS).contains(field.getName())) continue;
            Check.holds(field.getName() + " is private", Modifier.isPrivate(field.getModifiers()));
        }
    }

    static void classesInsideAreStaticAndFew() {
        Check.sentence("LANGUAGE.md 2, 11", "No inner class that isn't static");
        Class<?>[] inside = SparseDishes.class.getDeclaredClasses();
        Check.holds("at most some twelve classes", inside.length <= 12);
        for (Class<?> c : inside) {
            Check.holds(c + " is static, and not public", Modifier.isStatic(c.getModifiers())
                && !Modifier.isPublic(c.getModifiers()) && !Modifier.isProtected(c.getModifiers()));
            staticFieldsAreFinal(c);
        }
        staticFieldsAreFinal(SparseDishes.class);
    }

    static void methodsTakeFewAndClassesHoldFew() {
        Check.sentence("LANGUAGE.md 11", "A method takes at most seven parameters.");
        takesAndHoldsFew(SparseDishes.class);
        for (Class<?> inside : SparseDishes.class.getDeclaredClasses()) takesAndHoldsFew(inside);
    }

    static void whatTheProgramIsWithout() throws Exception {
        Check.sentence("LANGUAGE.md 2, 4, 6, 9", "No throw, try, catch, synchronized, assert");
        Path path = Path.of("src/main/java/SparseDishes.java");
        String text = Files.readString(path, StandardCharsets.ISO_8859_1);
        String code = text.replaceAll("(?s)/\\*.*?\\*/", "").replaceAll("//[^\n]*", "");
        for (String word : FORBIDDEN) {
            Check.holds("the program is without " + word, !Pattern.compile(word).matcher(code).find());
        }
    }

    private static boolean takesInts(Method m) {
        for (Class<?> type : m.getParameterTypes()) {
            if (type != int.class) return false;
        }
        return true;
    }

    private static void noPrivateOneBears(Set<String> names, Class<?> where) {
        for (Method m : where.getDeclaredMethods()) {
            if (!Modifier.isPrivate(m.getModifiers())) continue;
            Check.holds(m + " does not bear the name of a public one", !names.contains(m.getName()));
        }
    }

    private static void takesAndHoldsFew(Class<?> c) {
        for (Method m : c.getDeclaredMethods()) Check.holds(m + " takes few", m.getParameterCount() <= 7);
        int fields = 0;
        for (Field f : c.getDeclaredFields()) fields += Modifier.isStatic(f.getModifiers()) ? 0 : 1;
        Check.holds(c + " has some twenty fields at most", fields <= 20);
    }

    private static void staticFieldsAreFinal(Class<?> c) {
        for (Field f : c.getDeclaredFields()) {
            if (Modifier.isStatic(f.getModifiers())) Check.holds(f + " is final", Modifier.isFinal(f.getModifiers()));
        }
    }
}

import java.lang.reflect.Constructor;
import java.lang.reflect.Field;
import java.lang.reflect.Method;
import java.lang.reflect.Modifier;
import java.util.Set;
import java.util.TreeSet;

/** The public face is the document's and nothing beside it. */
public final class FaceTest {
    private static final String[] FACE = {
        "int feed(int, int, int, int, int)", "boolean end(int)", "int tune()", "int verse(int) IOOB", "int fault()",
        "int note(int, int) NSE", "int syllable(int, int, int) IOOB NSE", "int transpose(int)",
        "boolean price(int, int)", "boolean pin(int, int, int) IOOB", "int lay(int) IOOB",
        "int cost(int, int) IOOB NSE", "long ways(int, int, boolean) IOOB", "int begins(int, int) IOOB",
        "int lies(int, int) IOOB", "boolean alike(int, int, int) IOOB", "int column(int) NSE", "int row(int) IOOB",
        "int octet(int) NSE", "int count(int)",
    };

    public static void main(String[] args) {
        Class<?> c = SungWords.class;
        Checks.same("class", Modifier.toString(c.getModifiers()), "public final");
        Set<String> names = new TreeSet<>();
        Set<String> face = new TreeSet<>();
        for (Method m : c.getDeclaredMethods()) {
            if (Modifier.isPublic(m.getModifiers())) {
                face.add(told(m));
                names.add(m.getName());
            }
        }
        Checks.same("methods", String.join("\n", face), String.join("\n", new TreeSet<>(Set.of(FACE))));
        for (Method m : c.getDeclaredMethods()) {
            if (!Modifier.isPublic(m.getModifiers())) {
                Checks.same(m + " is private", Modifier.isPrivate(m.getModifiers()), true);
                Checks.same(m + " bears a public name", names.contains(m.getName()), false);
            }
        }
        for (Constructor<?> k : c.getDeclaredConstructors()) {
            Checks.same("constructor", k.toString(), "public SungWords()");
        }
        fields(c);
        for (Class<?> inside : c.getDeclaredClasses()) {
            Checks.same(inside + " is static", Modifier.isStatic(inside.getModifiers()), true);
            Checks.same(inside + " is not public", Modifier.isPublic(inside.getModifiers()), false);
        }
        Checks.finish();
    }

    private static void fields(Class<?> c) {
        for (Field f : c.getDeclaredFields()) {
            boolean isNone = f.getName().equals("NONE");
            Checks.same(f + " is private", Modifier.isPrivate(f.getModifiers()), !isNone);
            if (isNone) {
                Checks.same("NONE", f.toString(), "public static final int SungWords.NONE");
            }
            if (Modifier.isStatic(f.getModifiers())) {
                Checks.same(f + " is final", Modifier.isFinal(f.getModifiers()), true);
            }
        }
    }

    private static String told(Method m) {
        StringBuilder text = new StringBuilder(m.getReturnType().getName()).append(' ').append(m.getName()).append('(');
        for (Class<?> p : m.getParameterTypes()) {
            text.append(text.charAt(text.length() - 1) == '(' ? "" : ", ").append(p.getName());
        }
        text.append(')');
        for (Class<?> e : m.getExceptionTypes()) {
            text.append(e == IndexOutOfBoundsException.class ? " IOOB"
                    : e == java.util.NoSuchElementException.class ? " NSE" : " other");
        }
        return text.toString();
    }
}

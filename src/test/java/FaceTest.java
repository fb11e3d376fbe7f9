import java.lang.reflect.Constructor;
import java.lang.reflect.Field;
import java.lang.reflect.Method;
import java.lang.reflect.Modifier;
import java.util.ArrayList;
import java.util.Arrays;
import java.util.List;
import java.util.TreeSet;

/** The class has the document's face, and nothing else that can be seen from outside. */
public final class FaceTest {
    private static final String[] FACE = {
        "int alter(int, int, int) IllegalArgumentException, IndexOutOfBoundsException",
        "int copy(int, int) IllegalArgumentException",
        "int end(int, int) IllegalArgumentException, IndexOutOfBoundsException",
        "int feed(int, int, int, int, int) IndexOutOfBoundsException",
        "int length(int) IllegalArgumentException",
        "int resize(int, int) IllegalArgumentException",
        "boolean same(int, int) IllegalArgumentException",
        "int slhKeys(int) IllegalArgumentException, IllegalStateException",
        "int slhNode(int, int, int, int, int) IllegalArgumentException, UnsupportedOperationException",
        "int slhSign(int, int) IllegalArgumentException, IllegalStateException, UnsupportedOperationException",
        "boolean slhVerify(int, int) IllegalArgumentException, IllegalStateException, "
                + "UnsupportedOperationException",
        "long word(int, int) IllegalArgumentException, IndexOutOfBoundsException"
    };

    public static void main(String[] args) {
        Class<HashTreeSigner> type = HashTreeSigner.class;
        Check.due("public and final", Modifier.toString(type.getModifiers()), "public final");
        TreeSet<String> seen = new TreeSet<>();
        TreeSet<String> hidden = new TreeSet<>();
        for (Method m : type.getDeclaredMethods()) {
            if (Modifier.isPrivate(m.getModifiers())) {
                hidden.add(m.getName());
            } else {
                seen.add(told(m));
            }
        }
        Check.due("methods", seen, new TreeSet<>(Arrays.asList(FACE)));
        for (String line : FACE) {
            String name = line.substring(line.indexOf(' ') + 1, line.indexOf('('));
            Check.due("a private method " + name, hidden.contains(name), false);
        }
        for (Field f : type.getDeclaredFields()) {
            Check.due("private " + f, Modifier.isPrivate(f.getModifiers()), true);
        }
        for (Constructor<?> c : type.getDeclaredConstructors()) {
            Check.due("constructor", c.toString(), "public HashTreeSigner()");
        }
        Check.done();
    }

    private static String told(Method m) {
        return m.getReturnType().getSimpleName() + " " + m.getName()
                + "(" + names(m.getParameterTypes()) + ") " + names(m.getExceptionTypes());
    }

    private static String names(Class<?>[] types) {
        List<String> all = new ArrayList<>();
        for (Class<?> type : types) {
            all.add(type.getSimpleName());
        }
        return String.join(", ", all);
    }
}

import java.lang.reflect.Constructor;
import java.lang.reflect.Field;
import java.lang.reflect.Method;
import java.lang.reflect.Modifier;
import java.util.Arrays;
import java.util.Set;
import java.util.TreeSet;
import java.util.stream.Collectors;

/** The public face, as the class file shows it, and that nothing else can be seen (rule 1 of LANGUAGE.md). */
public final class FaceTest {
    private static final String A = "IllegalArgumentException";
    private static final String S = "IllegalStateException";
    private static final String I = "IndexOutOfBoundsException";
    private static final String[] FACE = {
        "int axle(int) " + A + " " + S,
        "int close(int, int, int, int) " + A + " " + S,
        "int annul(int, int) " + A + " " + S,
        "int sync() " + S,
        "int ticket(int, int) " + S + " " + I,
        "long dayTotal(int, int) " + S,
        "long rangeTotal(int, int) " + S,
        "int find(int, int) " + S,
        "int audit(int, int) " + S,
        "int exportByte(int, int, int) " + S,
        "void setProduct(int, boolean) " + A,
        "void cutAfter(int) " + A,
        "void crash() ",
        "int mount() ",
        "int wearOf(int) " + A,
        "void failBlock(int) " + A,
        "void poke(int, int, int) " + A,
        "int word(int, int) " + I,
        "int state(int) ",
    };

    public static void main(String[] args) {
        face();
        nothingElse();
        nestedClasses();
        Expect.end();
    }

    private static void face() {
        Class<?> c = WeighRecorder.class;
        Expect.is("public and final", c.getModifiers(), Modifier.PUBLIC | Modifier.FINAL);
        Set<String> got = new TreeSet<>();
        for (Method m : c.getDeclaredMethods()) {
            if (Modifier.isPublic(m.getModifiers())) {
                got.add(m.getReturnType() + " " + m.getName() + types(m.getParameterTypes(), ", ", "(", ")") + " "
                        + types(m.getExceptionTypes(), " ", "", ""));
            }
        }
        Expect.same("the face", String.join("\n", got), String.join("\n", new TreeSet<>(Arrays.asList(FACE))));
        Constructor<?>[] made = c.getDeclaredConstructors();
        Expect.is("one constructor", made.length, 1);
        Expect.is("without parameters", made[0].getParameterCount(), 0);
        Expect.is("that is public", made[0].getModifiers(), Modifier.PUBLIC);
    }

    private static String types(Class<?>[] types, String between, String left, String right) {
        return Arrays.stream(types).map(Class::getSimpleName).collect(Collectors.joining(between, left, right));
    }

    private static void nothingElse() {
        for (Method m : WeighRecorder.class.getDeclaredMethods()) {
            boolean told = Modifier.isPublic(m.getModifiers()) || Modifier.isPrivate(m.getModifiers());
            Expect.is("public or private: " + m.getName(), told ? 1 : 0, 1);
        }
        for (Field f : WeighRecorder.class.getDeclaredFields()) {
            Expect.is("private: " + f.getName(), Modifier.isPrivate(f.getModifiers()) ? 1 : 0, 1);
        }
    }

    private static void nestedClasses() {
        for (Class<?> c : WeighRecorder.class.getDeclaredClasses()) {
            boolean open = Modifier.isPublic(c.getModifiers()) || Modifier.isProtected(c.getModifiers());
            Expect.is("neither public nor protected: " + c, open ? 1 : 0, 0);
        }
    }
}

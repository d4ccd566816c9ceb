import java.lang.reflect.Constructor;
import java.lang.reflect.Executable;
import java.lang.reflect.Field;
import java.lang.reflect.Method;
import java.lang.reflect.Modifier;
import java.nio.file.Files;
import java.nio.file.Path;
import java.util.Arrays;
import java.util.Set;
import java.util.TreeSet;
import java.util.regex.Pattern;
import java.util.stream.Collectors;

/** The public face, and those rules of LANGUAGE.md that the class file and the text show. */
public final class FaceTest {
    private static final String A = "IllegalArgumentException";
    private static final String S = "IllegalStateException";
    private static final String I = "IndexOutOfBoundsException";
    private static final String[] FACE = {
        "int axle(int) " + A + " " + S,
        "int close(int, int, int, int) " + A + " " + S,
        "int annul(int, int) " + A + " " + S,
        "int sync() " + S,
        "int ticket(int, int) " + S + " " + I,
        "long dayTotal(int, int) " + S,
        "long rangeTotal(int, int) " + S,
        "int find(int, int) " + S,
        "int audit(int, int) " + S,
        "int exportByte(int, int, int) " + S,
        "void setProduct(int, boolean) " + A,
        "void cutAfter(int) " + A,
        "void crash() ",
        "int mount() ",
        "int wearOf(int) " + A,
        "void failBlock(int) " + A,
        "void poke(int, int, int) " + A,
        "int word(int, int) " + I,
        "int state(int) ",
    };
    private static final String[] NOT_IN_THE_LANGUAGE = {
        "->", "::", "\\bimport\\b", "\\bpackage\\b", "\\bfinally\\b", "\\bsynchronized\\b", "\\bassert\\b",
        "\\bstatic\\s*\\{", "\\bdouble\\b", "\\bfloat\\b", "\\bInteger\\.", "\\bnative\\b", "\\bvolatile\\b",
        "while\\s*\\(true\\)", "for\\s*\\(;;",
    };

    public static void main(String[] args) throws Exception {
        face();
        nothingElse();
        nestedClasses();
        language();
        Expect.end();
    }

    private static void face() {
        Class<?> c = WeighRecorder.class;
        Expect.is("public and final", c.getModifiers(), Modifier.PUBLIC | Modifier.FINAL);
        Set<String> got = new TreeSet<>();
        for (Method m : c.getDeclaredMethods()) {
            if (Modifier.isPublic(m.getModifiers())) {
                got.add(m.getReturnType() + " " + m.getName() + types(m.getParameterTypes(), ", ", "(", ")") + " "
                        + types(m.getExceptionTypes(), " ", "", ""));
            }
        }
        Expect.same("the face", String.join("\n", got), String.join("\n", new TreeSet<>(Arrays.asList(FACE))));
        Constructor<?>[] made = c.getDeclaredConstructors();
        Expect.is("one constructor", made.length, 1);
        Expect.is("without parameters", made[0].getParameterCount(), 0);
        Expect.is("that is public", made[0].getModifiers(), Modifier.PUBLIC);
    }

    private static String types(Class<?>[] types, String between, String left, String right) {
        return Arrays.stream(types).map(Class::getSimpleName).collect(Collectors.joining(between, left, right));
    }

    private static void nothingElse() {
        Set<String> open = new TreeSet<>();
        for (Method m : WeighRecorder.class.getDeclaredMethods()) {
            if (Modifier.isPublic(m.getModifiers())) {
                open.add(m.getName());
            }
        }
        for (Method m : WeighRecorder.class.getDeclaredMethods()) {
            if (!Modifier.isPublic(m.getModifiers())) {
                Expect.is("private: " + m.getName(), Modifier.isPrivate(m.getModifiers()) ? 1 : 0, 1);
                Expect.is("named apart: " + m.getName(), open.contains(m.getName()) ? 1 : 0, 0);
            }
        }
        for (Field f : WeighRecorder.class.getDeclaredFields()) {
            Expect.is("private: " + f.getName(), Modifier.isPrivate(f.getModifiers()) ? 1 : 0, 1);
            fieldIsAllowed(f);
        }
    }

    private static void nestedClasses() {
        Class<?>[] nested = WeighRecorder.class.getDeclaredClasses();
        Expect.is("at most some twelve classes", nested.length <= 11 ? 1 : 0, 1);
        for (Class<?> c : nested) {
            Expect.is("static: " + c, Modifier.isStatic(c.getModifiers()) ? 1 : 0, 1);
            Expect.is("not public: " + c, Modifier.isPublic(c.getModifiers()) ? 1 : 0, 0);
            for (Field f : c.getDeclaredFields()) {
                fieldIsAllowed(f);
            }
            for (Executable m : c.getDeclaredMethods()) {
                Expect.is("at most seven parameters: " + m, m.getParameterCount() <= 7 ? 1 : 0, 1);
            }
        }
    }

    private static void fieldIsAllowed(Field f) {
        boolean changes = Modifier.isStatic(f.getModifiers()) && !Modifier.isFinal(f.getModifiers());
        Expect.is("static and not final: " + f, changes ? 1 : 0, 0);
    }

    private static void language() throws Exception {
        String text = Files.readString(Path.of("src/main/java/WeighRecorder.java"));
        String code = text.replaceAll("(?s)/\\*.*?\\*/", "").replaceAll("//[^\n]*", "");
        for (String line : code.split("\n")) {
            // All calls of a run live in one room, so only fields and exceptions are made.
            boolean made = line.contains("new ") && !line.contains("private final ") && !line.contains("throw new ");
            Expect.is("made in a call: " + line.trim(), made ? 1 : 0, 0);
        }
        for (String form : NOT_IN_THE_LANGUAGE) {
            Expect.is("not in the language: " + form, Pattern.compile(form).matcher(code).find() ? 1 : 0, 0);
        }
    }
}

import java.lang.reflect.Constructor;
import java.lang.reflect.Field;
import java.lang.reflect.Method;
import java.lang.reflect.Modifier;
import java.util.ArrayList;
import java.util.Arrays;
import java.util.Collections;
import java.util.List;

/** The public face: each member with its types and exceptions, and no other that is not private. */
public final class FaceTest {
    private static final String I = "IndexOutOfBoundsException";
    private static final String A = "IllegalArgumentException";
    private static final String S = "IllegalStateException";

    private static final String[] FACE = {
        "int setCurrent(int, int) " + I + " " + A,
        "int weir(int, int) " + I + " " + A + " " + S,
        "int net(int, int) " + I + " " + S,
        "int river(int, int, int) " + I,
        "int launch(int, int, int, int) " + I + " " + A + " " + S,
        "int push(int, int) " + I + " " + S,
        "int light(int) " + I + " " + S,
        "int blow(int) " + I + " " + S,
        "int told(int, int) " + I,
        "int next(int) " + I,
        "int count(int) " + I,
        "int pass(int) " + A,
        "int burns(int) " + I,
        "int foresee(int, int) " + A + " " + I,
        "int advise(int) " + I,
        "double mean() ",
        "long digest() "};

    private static String form(Method m) {
        List<String> types = new ArrayList<>();
        for (Class<?> type : m.getParameterTypes()) {
            types.add(type.getSimpleName());
        }
        List<String> thrown = new ArrayList<>();
        for (Class<?> type : m.getExceptionTypes()) {
            thrown.add(type.getSimpleName());
        }
        return m.getReturnType().getSimpleName() + " " + m.getName() + "(" + String.join(", ", types) + ") "
            + String.join(" ", thrown);
    }

    private static void check(String what, boolean holds) {
        Expect.same(what, 1, holds ? 1 : 0);
    }

    public static void main(String[] args) {
        Class<?> c = LanternWeirs.class;
        check("public and final", Modifier.isPublic(c.getModifiers()) && Modifier.isFinal(c.getModifiers()));
        List<String> forms = new ArrayList<>();
        for (Method m : c.getDeclaredMethods()) {
            if (!Modifier.isPrivate(m.getModifiers()) && !m.isSynthetic()) {
                check(m.getName() + " is public and of the object",
                    Modifier.isPublic(m.getModifiers()) && !Modifier.isStatic(m.getModifiers()));
                forms.add(form(m));
            }
        }
        List<String> due = new ArrayList<>(Arrays.asList(FACE));
        Collections.sort(due);
        Collections.sort(forms);
        check("the methods are " + due + ", not " + forms, due.equals(forms));
        for (Field f : c.getDeclaredFields()) {
            check(f.getName() + " is private", Modifier.isPrivate(f.getModifiers()) || f.isSynthetic());
        }
        Constructor<?>[] made = c.getDeclaredConstructors();
        check("one public constructor without arguments",
            made.length == 1 && Modifier.isPublic(made[0].getModifiers()) && made[0].getParameterCount() == 0);
        Expect.end();
    }
}

import java.io.IOException;
import java.lang.reflect.Method;
import java.lang.reflect.Modifier;
import java.nio.file.Files;
import java.nio.file.Path;
import java.util.ArrayList;
import java.util.List;

/** What README.md shows: its example answers what stands beside it, and its list of calls is whole. */
public final class ReadmeTest {
    /** A call of the example; each kind of answer is compared as it is written. */
    private interface Call {
        Object answer();
    }

    private static final List<String> example = new ArrayList<>();
    private static int line = 0;

    /** The next line of the example is this call, and what stands first in its comment is what the call answers. */
    private static void shown(String call, Call made) {
        String got;
        try {
            got = String.valueOf(made.answer());
        } catch (RuntimeException e) {
            got = e.getClass().getSimpleName();
        }
        String text = line < example.size() ? example.get(line) : "no line";
        line++;
        boolean same = text.matches("\\Q" + call + ";\\E +// \\Q" + got + ",\\E .*");
        Expect.same("'" + call + "' answers " + got + " as README.md has it ('" + text + "')", 1, same ? 1 : 0);
    }

    private static void readExample(List<String> readme) {
        int start = readme.indexOf("```java");
        for (int i = start + 1; start >= 0 && i < readme.size() && !readme.get(i).equals("```"); i++) {
            example.add(readme.get(i));
        }
    }

    private static void theExample() {
        LanternWeirs x = new LanternWeirs();
        Expect.same("README.md's example starts with a new object", 1,
            !example.isEmpty() && example.get(line++).equals("LanternWeirs x = new LanternWeirs();") ? 1 : 0);
        shown("x.setCurrent(2, 4)", () -> x.setCurrent(2, 4));
        shown("x.weir(10, 4)", () -> x.weir(10, 4));
        shown("x.net(1, 30)", () -> x.net(1, 30));
        shown("x.advise(1)", () -> x.advise(1));
        shown("int lantern = x.launch(1, 200, 1, 0)", () -> x.launch(1, 200, 1, 0));
        shown("x.next(lantern)", () -> x.next(0));
        shown("x.burns(lantern)", () -> x.burns(0));
        shown("x.foresee(30, 9)", () -> x.foresee(30, 9));
        shown("x.pass(9)", () -> x.pass(9));
        shown("x.mean()", () -> x.mean());
        shown("x.pass(1)", () -> x.pass(1));
        shown("x.told(lantern, 5)", () -> x.told(0, 5));
        shown("x.told(lantern, 8)", () -> x.told(0, 8));
        shown("x.river(1, 30, 3)", () -> x.river(1, 30, 3));
        shown("x.weir(10, 1)", () -> x.weir(10, 1));
        Expect.same("lines of README.md's example", example.size(), line);
    }

    private static void theListOfCalls(List<String> readme) {
        for (Method m : LanternWeirs.class.getDeclaredMethods()) {
            if (Modifier.isPublic(m.getModifiers())) {
                boolean listed = false;
                for (String row : readme) {
                    listed |= row.matches("\\| .*`" + m.getName() + "\\([a-z, ]*\\)`.*\\|.*\\|");
                }
                Expect.same("README.md lists " + m.getName(), 1, listed ? 1 : 0);
            }
        }
    }

    public static void main(String[] args) throws IOException {
        List<String> readme = Files.readAllLines(Path.of("README.md"));
        readExample(readme);
        theExample();
        theListOfCalls(readme);
        Expect.end();
    }
}

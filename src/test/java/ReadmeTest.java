import java.lang.reflect.Method;
import java.lang.reflect.Modifier;
import java.nio.file.Files;
import java.nio.file.Path;

/** README.md names every call and answer of the class, and its example answers what it says. */
public final class ReadmeTest {
    private static int wrong = 0;
    private static int from = 0;
    private static String readme = "";

    public static void main(String[] args) throws Exception {
        Path program = Path.of(args.length > 0 ? args[0] : "src/main/java/CalmLines.java").toAbsolutePath();
        Path root = program.getParent().getParent().getParent().getParent();
        readme = Files.readString(root.resolve("README.md"));
        checkCalls();
        checkAnswers();
        checkExample();
        hold(readme.contains("\n    .ci/run\n"), "it says how to run the tests");
        try (var tests = Files.list(root.resolve("src/test/java"))) {
            for (Path test : tests.toList()) {
                String name = test.getFileName().toString().replace(".java", "");
                hold(readme.contains("- `" + name + "`:"), "it says what " + name + " tests");
            }
        }
        System.out.println(wrong == 0 ? "README.md holds" : wrong + " things of README.md do not hold");
        if (wrong != 0) {
            System.exit(1);
        }
    }

    private static void hold(boolean holds, String what) {
        if (!holds) {
            wrong++;
            System.out.println("not so: " + what);
        }
    }

    private static void checkCalls() {
        for (Method m : CalmLines.class.getDeclaredMethods()) {
            if (Modifier.isPublic(m.getModifiers())) {
                hold(readme.contains("\n| `" + m.getName() + "("), "it tells of the call " + m.getName());
            }
        }
    }

    private static void checkAnswers() {
        answer("NONE", CalmLines.NONE);
        answer("BAD", CalmLines.BAD);
        answer("NO", CalmLines.NO);
        answer("FULL", CalmLines.FULL);
    }

    private static void answer(String name, int value) {
        hold(readme.contains("\n| `" + name + "` | " + value + " | "), "it tells what " + name + ", " + value + ", means");
    }

    private static void checkExample() {
        CalmLines x = new CalmLines();
        shows("x.line(0, 0);", x.line(0, 0));
        shows("x.change(0, false);", x.change(0, false));
        shows("x.tick(30);", x.tick(30));
        shows("x.about(0, 0);", x.about(0, 0));
        shows("x.mark(0, 2);", x.mark(0, 2));
        shows("x.marks(3);", x.marks(3));
        shows("x.way(0, 1, true);", x.way(0, 1, true));
        shows("x.bind(0, 1, 0);", x.bind(0, 1, 0));
        shows("x.flood(false);", x.flood(false));
        shows("x.about(0, 0);", x.about(0, 0));
        shows("x.own(1, 1);", x.own(1, 1));
        shows("x.own(1, 2);", x.own(1, 2));
        shows("x.change(7, true);", x.change(7, true));
        hold(readme.indexOf("\nx.", from) < 0, "no call of the example is left out here");
    }

    /** The next call of the example is this one, and its line ends with what the class answers. */
    private static void shows(String call, int answered) {
        int start = readme.indexOf("\nx.", from);
        int end = start < 0 ? -1 : readme.indexOf('\n', start + 1);
        String row = end < 0 ? "" : readme.substring(start + 1, end);
        hold(row.startsWith(call + " "), "the next call of the example is " + call + " and not " + row);
        hold(row.endsWith(" " + answered), call + " answers " + answered + ", and the row is: " + row);
        from = Math.max(from, end);
    }
}

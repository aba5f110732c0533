import java.lang.reflect.Method;
import java.lang.reflect.Modifier;
import java.nio.file.Files;
import java.nio.file.Path;
import java.util.ArrayList;
import java.util.List;

/** The example of README.md does what is said there, and every call of the face is told there. */
public final class ReadmeTest {
    private static final Check check = new Check();

    public static void main(String[] args) throws Exception {
        example();
        List<String> readme = Files.readAllLines(Path.of("README.md"));
        isThisExample(readme);
        tellsEveryCall(String.join("\n", readme));
        check.end();
    }

    private static void example() {
        TickKeeper x = new TickKeeper();
        x.mask(0, 1, 0, 1 << 8);
        x.mask(0, 4, 0, 31);
        int first = x.due(0, 0);
        check.is("first", first, 3360);

        for (int job = 1; job < 8; job++) {
            x.set(job, 4, 1);
        }
        x.time(first);
        x.wake(0);
        while (x.letters() > 0) {
            x.deliver(0);
        }
        int done = x.effect(0, 0, 0);
        check.is("done", done, 3360);
        check.is("once", x.effects(0), 1);

        x.time(x.due(0, first + 1));
        x.wake(0);
        x.up(0, false);
        int woken = 0;
        while (x.effects(0) < 2) {
            woken++;
            x.wake(1);
            while (x.letters() > 0) {
                x.deliver(0);
            }
        }
        int next = x.effect(0, 1, 0);
        check.is("next", next, 4800);
        check.is("once, too", x.effects(0), 2);
        check.is("twice here", woken, 2);
    }

    /** Each line of README.md's example stands above too, in the same order. */
    private static void isThisExample(List<String> readme) throws Exception {
        List<String> tested = new ArrayList<>();
        for (String line : Files.readAllLines(Path.of("src/test/java/ReadmeTest.java"))) {
            tested.add(line.strip());
        }
        List<String> shown = linesOfCode(readme);
        check.yes("README.md has an example", shown.size() > 10);
        int place = -1;
        for (String line : shown) {
            int found = tested.subList(place + 1, tested.size()).indexOf(line);
            check.yes("the test has the example's line: " + line, found >= 0);
            place += found + 1;
        }
    }

    private static List<String> linesOfCode(List<String> readme) {
        List<String> lines = new ArrayList<>();
        int from = readme.indexOf("```java");
        for (int i = from + 1; i < readme.size() && !readme.get(i).equals("```"); i++) {
            String line = readme.get(i).split("//")[0].strip();
            if (!line.isEmpty()) {
                lines.add(line);
            }
        }
        return lines;
    }

    private static void tellsEveryCall(String readme) {
        for (Method method : TickKeeper.class.getDeclaredMethods()) {
            if (Modifier.isPublic(method.getModifiers())) {
                check.yes("README.md tells of " + method.getName(), readme.contains("`" + method.getName() + "("));
            }
        }
    }
}

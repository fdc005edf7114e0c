import java.io.IOException;
import java.lang.reflect.Method;
import java.lang.reflect.Modifier;
import java.nio.file.Files;
import java.nio.file.Path;
import java.util.ArrayList;
import java.util.List;

/** README.md tells every call, and its example answers what it says. .ci/run starts it where README.md is. */
public final class ReadmeTest {
    public static void main(String[] args) throws IOException {
        List<String> readme = Files.readAllLines(Path.of("README.md"));
        List<String> source = Files.readAllLines(Path.of("src/test/java/ReadmeTest.java"));
        List<String> shown = between(readme, "```java", "```");
        List<String> run = between(source, "// README.md's example", "// its end");
        Checks.same("lines of the example", shown.size(), run.size());
        Checks.same("the example is the one that is run here", shown.equals(run), true);
        runExample();
        tellsEveryCall(readme);
        Checks.end();
    }

    private static void runExample() {
        // README.md's example
        SignalBoard board = new SignalBoard(2);            // two processors, 0 and 1

        board.write(1, 4 * 3, 4, 5);                       // source 3 has priority 5
        board.write(1, 8192, 4, 1 << 3);                   // context 0 enables it
        board.signal(3, true);                             // its signal goes on, so it waits
        boolean called = board.line(0, 11);                // true: line 11 of processor 0 is on
        long source = board.read(1, 2097156, 4);           // 3: context 0 claims it
        boolean after = board.line(0, 11);                 // false: it waits no more
        board.signal(3, false);
        board.write(1, 2097156, 4, source);                // context 0 completes it

        board.write(0, 16384 + 8 * 1, 8, 1000);            // COMPARE of processor 1
        board.pass(1000);                                  // TIME is 1000
        boolean due = board.line(1, 7);                    // true: TIME has got there

        board.write(2, 0, 1, 'A');                         // the serial line sends a byte
        long sent = board.sent();                          // 1
        int first = board.out(0);                          // 65
        boolean taken = board.come(66);                    // true: there was room for a byte
        long got = board.read(2, 0, 1);                    // 66
        // its end
        Checks.same("called", called, true);
        Checks.same("source", source, 3);
        Checks.same("after", after, false);
        Checks.same("due", due, true);
        Checks.same("sent", sent, 1);
        Checks.same("first", first, 65);
        Checks.same("taken", taken, true);
        Checks.same("got", got, 66);
        Checks.same("processors", board.processors(), 2);
        Checks.same("waits no more, once completed with its signal off", board.read(1, 4096, 4), 0);
    }

    private static void tellsEveryCall(List<String> readme) {
        for (Method m : SignalBoard.class.getDeclaredMethods()) {
            if (Modifier.isPublic(m.getModifiers())) {
                String start = "| `" + m.getName() + "(";
                long rows = readme.stream().filter(row -> row.startsWith(start)).count();
                Checks.same("rows of " + m.getName() + "() in README.md", rows, 1);
            }
        }
    }

    /** The lines after the first mark and before the next second one, without what stands before their words. */
    private static List<String> between(List<String> lines, String first, String second) {
        List<String> found = new ArrayList<>();
        boolean inside = false;
        for (String line : lines) {
            String text = line.strip();
            if (inside && text.equals(second)) {
                return found;
            }
            if (inside) {
                found.add(text);
            }
            inside |= text.equals(first);
        }
        return found;
    }
}

import java.io.IOException;
import java.nio.file.DirectoryStream;
import java.nio.file.Files;
import java.nio.file.Path;
import java.nio.file.Paths;
import java.util.ArrayList;
import java.util.List;

/** README.md: its examples answer as they say there, and its table names the tests that there are. */
final class ReadmeTest {
    private static final Path README = Paths.get("README.md");
    private static final Path TESTS = Paths.get("src", "test", "java");

    public static void main(String[] args) throws IOException {
        Check check = new Check();
        product(check);
        interrupt(check);
        examplesStandHere(check);
        everyTestIsNamed(check);
        everyNameIsATest(check);
        check.end();
    }

    private static void product(Check check) {
        HartDesk desk = new HartDesk();
        desk.set(0, 0xFFB00093);         // register 1: 0 + -5
        desk.set(4, 0x00700113);         // register 2: 0 + 7
        desk.set(8, 0x022081B3);         // register 3: the product of both
        desk.set(12, 115);               // TRAP 11; as VECTOR is 0, it stops there
        int steps = desk.run(10);        // 4, the TRAP among them
        int product = desk.register(3);  // -35
        int cause = desk.control(834);   // 11
        int stopped = desk.state(0);     // 1
        check.same("steps", steps, 4);
        check.same("product", product, -35);
        check.same("cause", cause, 11);
        check.same("stopped", stopped, 1);
    }

    private static void interrupt(Check check) {
        HartDesk busy = new HartDesk();
        busy.put(1, 256);
        busy.put(2, 2048);
        busy.set(0, 0x30509073);         // VECTOR becomes register 1
        busy.set(4, 0x30411073);         // ENABLED becomes register 2
        busy.set(8, 0x30046073);         // STATUS with bit 3
        busy.set(12, 0x0000006F);        // on at this very word
        busy.set(256, 0x00118193);       // register 3: register 3 + 1
        busy.set(260, 0x30200073);       // BACK
        busy.run(100);                   // the line is down: no interrupt comes
        int quiet = busy.state(3);       // 0
        busy.line(true);
        busy.run(3);                     // the interrupt, and the two words at VECTOR
        busy.line(false);
        int served = busy.register(3);   // 1
        int why = busy.control(834);     // -2147483637
        int at = busy.register(32);      // 12, where it was
        check.same("quiet", quiet, 0);
        check.same("served", served, 1);
        check.same("why", why, -2147483637);
        check.same("at", at, 12);
        check.same("traps", busy.state(3), 1);
    }

    // What is run above must be what README.md shows, line by line in its order.
    private static void examplesStandHere(Check check) throws IOException {
        List<String> here = Files.readAllLines(TESTS.resolve("ReadmeTest.java"));
        int next = 0;
        List<String> shown = javaLines();
        for (String line : shown) {
            int at = next;
            while (at < here.size() && !here.get(at).trim().equals(line)) {
                at++;
            }
            check.yes("README.md's line is run here: " + line, at < here.size());
            next = at < here.size() ? at + 1 : next;
        }
        check.same("lines of both examples", shown.size(), 26);
    }

    private static List<String> javaLines() throws IOException {
        List<String> lines = new ArrayList<>();
        boolean inside = false;
        for (String line : Files.readAllLines(README)) {
            if (line.startsWith("```")) {
                inside = line.equals("```java");
            } else if (inside) {
                lines.add(line);
            }
        }
        return lines;
    }

    private static void everyTestIsNamed(Check check) throws IOException {
        String table = table();
        try (DirectoryStream<Path> files = Files.newDirectoryStream(TESTS, "*Test.java")) {
            for (Path file : files) {
                String name = file.getFileName().toString().replace(".java", "");
                check.yes("README.md's table names " + name, table.matches("(?s).*\\b" + name + "\\b.*"));
            }
        }
    }

    private static void everyNameIsATest(Check check) throws IOException {
        for (String word : table().split("[^A-Za-z]+")) {
            if (word.endsWith("Test")) {
                check.yes(word + " is there", Files.exists(TESTS.resolve(word + ".java")));
            }
        }
    }

    private static String table() throws IOException {
        StringBuilder rows = new StringBuilder();
        for (String line : Files.readAllLines(README)) {
            if (line.startsWith("|")) {
                rows.append(line).append('\n');
            }
        }
        return rows.toString();
    }
}

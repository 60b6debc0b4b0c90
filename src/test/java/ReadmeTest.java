import java.io.IOException;
import java.nio.file.Files;
import java.nio.file.Path;
import java.util.ArrayList;
import java.util.List;

/** The example of README.md: its lines, and what they answer. */
public final class ReadmeTest {
    private static final CoatsHall x = new CoatsHall();
    private static final List<String> told = new ArrayList<>();

    public static void main(String[] args) throws IOException {
        line("x.feed(8, 0x726f772032206b69L)", x.feed(8, 0x726f772032206b69L), 8);
        line("x.feed(8, 0x6e6420302077616cL)", x.feed(8, 0x6e6420302077616cL), 16);
        line("x.feed(4, 0x6b20313bL)", x.feed(4, 0x6b20313bL), 20);
        line("x.hall()", x.hall(), 2);
        line("x.guest(0, 0, 20, 3)", x.guest(0, 0, 20, 3), 0);
        line("x.guest(1, 0, 5, 1)", x.guest(1, 0, 5, 1), 1);
        line("x.plan(false, 1)", x.plan(false, 1), 1);
        line("x.hang(0, 0, 1, 1)", x.hang(0, 0, 1, 1), 0);
        line("x.hang(1, 1, 0, 0)", x.hang(1, 1, 0, 0), 1);
        line("x.rush(3, 1, 0)", x.rush(3, 1, 0), 16);
        line("x.give(2, 1, 1)", x.give(2, 1, 1), 2);
        line("x.astray()", x.astray(), 2);
        line("x.wrong(0, 0)", x.wrong(0, 0), 2);
        line("x.lose(0)", x.lose(0), 3);
        line("x.claim(0, 1, 0)", x.claim(0, 1, 0), 0);
        line("x.grant(0)", x.grant(0), 1);
        line("x.exchanges()", x.exchanges(), 1);
        List<String> shown = new ArrayList<>();
        for (String line : Files.readAllLines(Path.of("README.md"))) {
            if (line.startsWith("x.")) shown.add(line.substring(0, line.indexOf(';')));
        }
        Due.is("README.md shows these lines: " + told, shown.equals(told) ? 1 : 0, 1);
        Due.end();
    }

    private static void line(String call, long got, long want) {
        told.add(call);
        Due.is(call, got, want);
    }
}

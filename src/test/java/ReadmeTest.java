import java.io.IOException;
import java.nio.file.Files;
import java.nio.file.Path;
import java.util.ArrayList;
import java.util.List;

/** README.md: its example stands here too, so that what it says of the answers is looked at. */
public final class ReadmeTest {
    private static final Bench BENCH = new Bench("ReadmeTest");
    private static final Path README = Path.of("README.md");
    private static final Path THIS = Path.of("src/test/java/ReadmeTest.java");
    private static final String[] SAID = {
        "`PassedToken(int station, int most)`", "`int hear(int b)`", "`int quiet(int n)`", "`int sent(int i)`",
        "`boolean ask(int to, int id, int cls, int number, int property)`", "`int replied()`", "`int reply(int i)`",
        "`int state()`", "`int silence()`", "`boolean set(int thing, int r, int value, boolean none)`",
        "`int present(int thing)`", "`BAD`", "    .ci/run",
    };

    public static void main(String[] args) throws IOException {
        example();
        exampleIsThatOfReadme();
        readmeSaysAll();
        BENCH.end();
    }

    private static void example() {
        // the example begins
        PassedToken x = new PassedToken(3, 7);     // station 3 on a line of the stations 0 .. 7

        // Others read what this station has: 1 asks for the present value of thing 0.
        x.set(0, 8, 77, false);                    // rank 8 of thing 0 is 77
        int present = x.present(0);                // 77
        int[] question = {85, 255, 5, 3, 1, 0, 13, 152,
            1, 4, 0, 4, 9, 12, 12, 0, 128, 0, 0, 25, 85, 151, 10};
        int answered = 0;
        for (int b : question) {
            answered = x.hear(b);                  // 0, and 29 upon the last byte: the answer is sent
        }
        int value = x.sent(25);                    // 77, the lowest byte of the value in the answer
        int behind = x.sent(29);                   // BAD: there are bytes 0 .. 28

        // This station asks 5 for the thing of class 2 and number 1, as soon as it gets the token.
        boolean waits = x.ask(5, 1, 2, 1, 85);     // true
        int[] token = {85, 255, 0, 3, 1, 0, 0, 250};
        int asked = 0;
        for (int b : token) {
            asked = x.hear(b);                     // 23 upon the last byte: the request is sent
        }
        int waiting = x.state() % 8;               // 2: it waits for the reply
        int[] reply = {85, 255, 6, 3, 5, 0, 19, 125,
            1, 0, 48, 1, 12, 12, 0, 128, 0, 1, 25, 85, 62, 68, 0, 0, 0, 20, 63, 102, 135};
        for (int b : reply) {
            x.hear(b);
        }
        int length = x.replied();                  // 19
        int told = x.reply(17);                    // 20, the lowest byte of the value in the reply

        // Upon the reply it has polled 4, to learn who is next; when 4 keeps still, 5 is polled.
        int still = x.quiet(19);                   // 0
        int polled = x.quiet(1);                   // 8
        int whom = x.sent(3);                      // 5
        // the example ends
        BENCH.due("present", present, 77);
        BENCH.due("answered", answered, 29);
        BENCH.due("value", value, 77);
        BENCH.due("behind", behind, PassedToken.BAD);
        BENCH.due("waits", waits, true);
        BENCH.due("asked", asked, 23);
        BENCH.due("waiting", waiting, 2);
        BENCH.due("length", length, 19);
        BENCH.due("told", told, 20);
        BENCH.due("still", still, 0);
        BENCH.due("polled", polled, 8);
        BENCH.due("whom", whom, 5);
    }

    private static void exampleIsThatOfReadme() throws IOException {
        List<String> here = between(THIS, "// the example begins", "// the example ends");
        List<String> there = between(README, "```java", "```");
        BENCH.due("lines of the example", there.size(), here.size());
        for (int i = 0; i < Math.min(here.size(), there.size()); i++) {
            BENCH.due("README.md has the line: " + here.get(i), there.get(i).equals(here.get(i)), true);
        }
    }

    /** The lines between the first that is the one text and the next that is the other. */
    private static List<String> between(Path file, String first, String last) throws IOException {
        List<String> all = new ArrayList<>();
        boolean inside = false;
        for (String line : Files.readAllLines(file)) {
            String text = line.strip();
            if (inside && text.equals(last)) {
                return all;
            }
            if (inside) {
                all.add(text);
            }
            inside = inside || text.equals(first);
        }
        return all;
    }

    private static void readmeSaysAll() throws IOException {
        String readme = Files.readString(README);
        for (String said : SAID) {
            BENCH.due("README.md says " + said, readme.contains(said), true);
        }
        try (var tests = Files.list(Path.of("src/test/java"))) {
            for (Path test : (Iterable<Path>) tests::iterator) {
                String name = test.getFileName().toString().replace(".java", "");
                BENCH.due("README.md tells of " + name, readme.contains(name), true);
            }
        }
    }
}

import java.io.IOException;
import java.nio.file.Files;
import java.nio.file.Path;
import java.util.List;
import java.util.stream.Collectors;
import java.util.stream.Stream;

/** README.md: its example stands here too, line by line, and answers what its comments say; it names each test. */
public final class ReadmeTest {
    private static final Path README = Path.of("README.md");
    private static final Path TESTS = Path.of("src/test/java");

    public static void main(String[] args) throws IOException {
        example();
        sameLines();
        namesEachTest();
        Check.end("ReadmeTest");
    }

    private static void example() {
        // ```java
        Escheatry x = new Escheatry();
        int bank = x.holder(0);                 // 0: a holder whose home is the state 0
        int ann = x.owner(1);                   // 0: an owner who lives in the state 1
        for (char letter : "wage".toCharArray()) {
            x.letter(letter);                   // the kind is typed, letter by letter
        }
        int wage = x.item(bank, ann, 60);       // 0: an item worth 60, touched in the year 0
        int due = x.due(wage);                  // 1: wages sleep one year at first
        int letters = x.send(wage);             // 1: a letter ahead of the report; it costs 2
        int reported = x.pass(1);               // 1: the year 1 begins, and 58 go to the state 1
        int purse = x.purse(1);                 // 58
        int got = x.claim(ann, wage, true);     // 53: a finder gets 5
        // ```
        int[] answers = {bank, ann, wage, due, letters, reported, purse, got, x.finders()};
        int[] want = {0, 0, 0, 1, 1, 1, 58, 53, 5};
        for (int at = 0; at < want.length; at++) {
            Check.same("answer " + at + " of the example", answers[at], want[at]);
        }
    }

    private static List<String> block(List<String> lines, String first, String last) {
        List<String> trimmed = lines.stream().map(String::trim).collect(Collectors.toList());
        int begin = trimmed.indexOf(first);
        int end = begin + 1;
        while (begin >= 0 && end < trimmed.size() && !trimmed.get(end).equals(last)) {
            end++;
        }
        return trimmed.subList(begin + 1, begin < 0 ? 0 : end);
    }

    private static void sameLines() throws IOException {
        List<String> told = block(Files.readAllLines(README), "```java", "```");
        List<String> run = block(Files.readAllLines(TESTS.resolve("ReadmeTest.java")), "// ```java", "// ```");
        Check.same("the example has lines", run.isEmpty(), false);
        Check.same("README.md's example", told, run);
    }

    private static void namesEachTest() throws IOException {
        String told = Files.readString(README);
        try (Stream<Path> files = Files.list(TESTS)) {
            for (Path file : files.sorted().collect(Collectors.toList())) {
                String name = file.getFileName().toString().replace(".java", "");
                if (name.endsWith("Test")) {
                    Check.same("README.md names " + name, told.contains("| `" + name + "` |"), true);
                }
            }
        }
    }
}

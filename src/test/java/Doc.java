import java.io.IOException;
import java.nio.charset.StandardCharsets;
import java.nio.file.Files;
import java.nio.file.Path;
import java.util.ArrayList;
import java.util.LinkedHashMap;
import java.util.List;
import java.util.Map;

/** The document's own words: each test quotes the sentence that it looks at, and no sentence may go without a quote. */
final class Doc {
    private static final Path FILE = Path.of("../shared/DOC.md");
    private static final Map<String, String> TEXTS = new LinkedHashMap<>();
    private static final Map<String, boolean[]> QUOTED = new LinkedHashMap<>();

    static {
        read();
    }

    private Doc() {
    }

    static void promise(int number, String sentence) {
        says("Promise " + number, sentence);
    }

    /** Begins a test of a sentence, or of a part of one, that stands in the section. */
    static void says(String section, String sentence) {
        Check.begin(section + ": " + sentence);
        mark(section, sentence);
    }

    /** Words of the section that promise nothing. */
    static void promisesNothing(String section, String words) {
        mark(section, words);
    }

    private static void mark(String section, String words) {
        if (TEXTS.isEmpty()) {
            return;
        }
        String text = TEXTS.getOrDefault(section, "");
        if (!text.contains(words)) {
            Check.fail("is not in the document");
        }
        for (int at = text.indexOf(words); at >= 0; at = text.indexOf(words, at + 1)) {
            java.util.Arrays.fill(QUOTED.get(section), at, at + words.length(), true);
        }
    }

    static void quotedWhole(String... sections) {
        for (String section : sections) {
            for (String left : unquoted(section)) {
                Check.begin(section + ": " + left);
                Check.same("some test quotes it", false, true);
            }
        }
    }

    private static List<String> unquoted(String section) {
        List<String> all = new ArrayList<>();
        String text = TEXTS.getOrDefault(section, "");
        StringBuilder run = new StringBuilder();
        for (int i = 0; i <= text.length(); i++) {
            if (i < text.length() && !QUOTED.get(section)[i]) {
                run.append(text.charAt(i));
                continue;
            }
            if (run.chars().anyMatch(Character::isLetterOrDigit)) {
                all.add(run.toString().trim());
            }
            run.setLength(0);
        }
        return all;
    }

    private static void read() {
        List<String> lines = List.of();
        try {
            lines = Files.readAllLines(FILE, StandardCharsets.UTF_8);
        } catch (IOException e) {
            System.out.println("no " + FILE + ": what the tests quote is not compared with it");
        }
        Map<String, StringBuilder> texts = new LinkedHashMap<>();
        String section = "";
        for (String line : lines) {
            if (line.startsWith("#")) {
                section = line.replaceAll("^#+ ", "").replaceAll("^(Promise \\d+): .*", "$1");
            } else if (line.matches("[A-Z][a-z]+, [a-z]+")) {
                section = line;
            } else {
                // The signatures are FaceTest's.
                texts.computeIfAbsent(section, s -> new StringBuilder()).append(line.replaceAll("^`[^`]*\\)[^`]*`: ", "")).append('\n');
            }
        }
        texts.forEach((name, text) -> {
            TEXTS.put(name, text.toString());
            QUOTED.put(name, new boolean[text.length()]);
        });
    }
}

import java.io.IOException;
import java.nio.file.Files;
import java.nio.file.Path;
import java.util.ArrayList;
import java.util.Arrays;
import java.util.List;
import java.util.regex.Matcher;
import java.util.regex.Pattern;
import java.util.stream.Stream;

/** The sentences that tests name stand in the document, and each of its sentences has a test, but for 'Not promised'. */
public final class SentencesTest {
    private static final Path DOCUMENT = Path.of("../shared/DOC.md");
    private static final Path TESTS = Path.of("src/test/java");
    private static final Pattern NAMED = Pattern.compile("Sentence\\.holds\\(((?:\\s*\\+?\\s*\"[^\"]*\")+),");
    private static final Pattern TEXT = Pattern.compile("\"([^\"]*)\"");

    public static void main(String[] args) throws IOException {
        String document = Files.readString(DOCUMENT).replaceAll("```\\w*", " ");
        String whole = document.replaceAll("\\s+", " ");
        // The face between these parts is compared by FaceTest.
        String toCover = between(document, "## What it is", "## The public face")
            + between(document, "## Terms", "## Not promised");
        boolean[] covered = new boolean[toCover.length()];
        for (String words : namedByTests()) {
            Probe.same("\"" + words + "\" stands in the document", whole.contains(words), true);
            for (int at = toCover.indexOf(words); at >= 0; at = toCover.indexOf(words, at + 1)) {
                Arrays.fill(covered, at, at + words.length(), true);
            }
        }
        for (String left : withoutTest(toCover, covered)) {
            Probe.same("a test for", left, "");
        }
        Probe.finish();
    }

    private static String between(String document, String from, String to) {
        String part = document.substring(document.indexOf(from), document.indexOf(to));
        return part.replaceAll("(?m)^## .*$", " ").replaceAll("\\s+", " ");
    }

    private static List<String> namedByTests() throws IOException {
        List<String> named = new ArrayList<>();
        try (Stream<Path> files = Files.list(TESTS)) {
            for (Path file : files.sorted().toList()) {
                Matcher call = NAMED.matcher(Files.readString(file));
                while (call.find()) {
                    named.add(joined(call.group(1)));
                }
            }
        }
        return named;
    }

    private static String joined(String texts) {
        StringBuilder words = new StringBuilder();
        Matcher text = TEXT.matcher(texts);
        while (text.find()) {
            words.append(text.group(1));
        }
        return words.toString();
    }

    /** What no test names, as far as it has letters or digits. */
    private static List<String> withoutTest(String words, boolean[] covered) {
        StringBuilder left = new StringBuilder();
        for (int i = 0; i < words.length(); i++) {
            left.append(covered[i] ? '\n' : words.charAt(i));
        }
        List<String> parts = new ArrayList<>();
        for (String part : left.toString().split("\n+")) {
            if (part.matches(".*\\w.*")) {
                parts.add(part.strip());
            }
        }
        return parts;
    }
}

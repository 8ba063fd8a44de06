import java.io.IOException;
import java.nio.file.Files;
import java.nio.file.Path;
import java.util.ArrayList;
import java.util.HashMap;
import java.util.List;
import java.util.Map;
import java.util.Set;
import java.util.regex.Matcher;
import java.util.regex.Pattern;
import java.util.stream.Stream;

/** Each sentence of the document is one that some test names. */
public final class SentencesTest {
    /** Headings without promises, and the face, whose test is FaceTest. */
    private static final Set<String> NOT_LOOKED_AT = Set.of("# PakeDesk", "The public face", "Not promised");
    private static final Pattern NAMED =
            Pattern.compile("\\.sentence\\(\\s*\"([^\"]*)\",\\s*((?:\"[^\"]*\"|\\s|\\+)*)\\)");

    public static void main(String[] args) throws IOException {
        Check check = new Check();
        Map<String, List<String>> named = named();
        for (String place : Document.places().keySet()) {
            if (NOT_LOOKED_AT.contains(place)) {
                continue;
            }
            for (String sentence : Document.sentences(place)) {
                List<String> words = named.getOrDefault(place, List.of());
                boolean hasTest = words.stream().anyMatch(w -> sentence.contains(w) || w.contains(sentence));
                check.same(true, place + ": a test for \"" + sentence + "\"", hasTest);
            }
        }
        check.end();
    }

    private static Map<String, List<String>> named() throws IOException {
        Map<String, List<String>> named = new HashMap<>();
        try (Stream<Path> files = Files.list(Path.of("src/test/java"))) {
            for (Path file : files.toList()) {
                Matcher matcher = NAMED.matcher(Files.readString(file));
                while (matcher.find()) {
                    String words = matcher.group(2).trim().replaceAll("\"\\s*\\+\\s*\"", "");
                    named.computeIfAbsent(matcher.group(1), place -> new ArrayList<>())
                            .add(words.substring(1, words.length() - 1));
                }
            }
        }
        return named;
    }
}

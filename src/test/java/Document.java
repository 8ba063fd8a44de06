import java.io.IOException;
import java.io.UncheckedIOException;
import java.nio.file.Files;
import java.nio.file.Path;
import java.util.LinkedHashMap;
import java.util.List;
import java.util.Map;

/** The words of ../shared/DOC.md by place; run from the project's folder. */
final class Document {
    private static final String TERMS = "Terms";
    /** The places inside "Terms", each with the words that it begins with. */
    private static final String[][] PLACES_OF_TERMS = {
        {"NUMBERS", "P is"},
        {"RECORDS", "USERS are"},
        {"SESSIONS", "SESSIONS are"},
        {"FAILURE and BLOCKED", "A user has a FAILURE"},
        {"Constants", "The constants:"},
    };
    private static final Map<String, String> PLACES = read();

    private Document() {
    }

    static boolean says(String place, String words) {
        return PLACES.getOrDefault(place, "").contains(words);
    }

    static Map<String, String> places() {
        return PLACES;
    }

    /** Two points stand between the ends of a range, and end no sentence. */
    static List<String> sentences(String place) {
        return List.of(PLACES.get(place).split("(?<=[^.][.;])\\s+"));
    }

    private static Map<String, String> read() {
        Map<String, String> places = new LinkedHashMap<>();
        for (String section : text().split("(?m)^## ")) {
            int end = section.indexOf('\n');
            String heading = section.substring(0, end);
            String words = oneLine(section.substring(end));
            if (heading.equals(TERMS)) {
                cutTerms(words, places);
            } else {
                places.put(heading.replaceAll(":.*", ""), words.replaceFirst("^`[^`]*`: ", ""));
            }
        }
        return places;
    }

    private static void cutTerms(String words, Map<String, String> places) {
        for (int i = 0; i < PLACES_OF_TERMS.length; i++) {
            int begin = words.indexOf(PLACES_OF_TERMS[i][1]);
            int end = i + 1 < PLACES_OF_TERMS.length ? words.indexOf(PLACES_OF_TERMS[i + 1][1]) : words.length();
            places.put(PLACES_OF_TERMS[i][0], words.substring(begin, end).replaceFirst(" RECORDS\\. $", "").trim());
        }
    }

    private static String oneLine(String words) {
        return words.replaceAll("```\\w*", " ").replaceAll("\\s+", " ").trim();
    }

    private static String text() {
        try {
            return Files.readString(Path.of("../shared/DOC.md"));
        } catch (IOException e) {
            throw new UncheckedIOException(e);
        }
    }
}

import java.util.List;

/** Counts the answers that are not as due, prints each, and ends the program with 1 if there was one. */
final class Check {
    static final String NO_ELEMENT = "throws.NoSuchElementException";
    static final String WRONG_STATE = "throws.IllegalStateException";
    static final String WRONG_ARGUMENT = "throws.IllegalArgumentException";
    static final String WRONG_CONFIRMATION = "throws.UnsupportedOperationException";

    interface Call {
        Object make();
    }

    private int wrong = 0;
    private int seen = 0;
    private int seenBefore = 0;
    private String sentence = "";

    /** What a call answers, as text; an exception is written throws. and its name. */
    static String answer(Call call) {
        try {
            return String.valueOf(call.make());
        } catch (RuntimeException e) {
            return "throws." + e.getClass().getSimpleName();
        }
    }

    /** From here on the answers are those that these words of the document ask for. */
    void sentence(String place, String words) {
        closeSentence();
        sentence = place + ", \"" + words + "\": ";
        if (!Document.says(place, words)) {
            complain("the document has no such words there");
        }
    }

    void due(Object want, String what, Call call) {
        same(String.valueOf(want), what, answer(call));
    }

    void same(Object want, String what, Object got) {
        seen++;
        if (!String.valueOf(want).equals(String.valueOf(got))) {
            complain(what + " answered " + got + ", due is " + want);
        }
    }

    /** Of many lines the first that differs is told, not all of them. */
    void sameLines(List<String> want, String what, List<String> got) {
        int line = 0;
        while (line < want.size() && line < got.size() && want.get(line).equals(got.get(line))) {
            line++;
        }
        same(lineOf(want, line), what + ", line " + line + ",", lineOf(got, line));
    }

    private static String lineOf(List<String> lines, int line) {
        return line < lines.size() ? lines.get(line) : "no more";
    }

    boolean isClean() {
        return wrong == 0;
    }

    void end() {
        closeSentence();
        if (wrong != 0 || seen == 0) {
            System.out.println(wrong + " faults, " + seen + " answers looked at");
            System.exit(1);
        }
    }

    private void complain(String fault) {
        wrong++;
        System.out.println(sentence + fault);
    }

    /** A sentence whose test looks at no answer would hold whatever the class does. */
    private void closeSentence() {
        if (!sentence.isEmpty() && seen == seenBefore) {
            complain("no answer was looked at");
        }
        seenBefore = seen;
    }
}

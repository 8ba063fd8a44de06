/** Counts the answers that are not as due, prints each, and ends the program with 1 if there was one. */
final class Check {
    interface Call {
        Object make();
    }

    private int wrong = 0;
    private int seen = 0;

    /** What a call answers, as text; an exception is written throws. and its name. */
    static String answer(Call call) {
        try {
            return String.valueOf(call.make());
        } catch (RuntimeException e) {
            return "throws." + e.getClass().getSimpleName();
        }
    }

    void due(Object want, String what, Call call) {
        same(String.valueOf(want), what, answer(call));
    }

    void same(Object want, String what, Object got) {
        seen++;
        if (!String.valueOf(want).equals(String.valueOf(got))) {
            wrong++;
            System.out.println(what + " answered " + got + ", due is " + want);
        }
    }

    void end() {
        if (wrong != 0 || seen == 0) {
            System.out.println(wrong + " of " + seen + " answers are not as due");
            System.exit(1);
        }
    }
}

import java.util.Objects;

/** Counts and prints what is not as it is due; a test ends by calling end(). */
final class Check {
    private int done;
    private int wrong;
    private int tests;
    private int doneBefore;
    private String about = "";

    /** A call of the program, so that what it throws can be looked at. */
    interface Call {
        void make();
    }

    /** From here on the checks hold this sentence of the document, which stands there. */
    void about(String place, String sentence) {
        endOfOne();
        tests++;
        doneBefore = done;
        about = place + ", '" + sentence + "': ";
    }

    /** Likewise, but hold it in this case only. */
    void about(String place, String sentence, String inCase) {
        about(place, sentence);
        about += inCase + ": ";
    }

    private void endOfOne() {
        if (tests > 0 && done == doneBefore) {
            wrong++;
            System.out.println(about + "nothing was checked");
        }
    }

    void same(String what, Object due, Object got) {
        done++;
        if (!Objects.equals(due, got)) {
            wrong++;
            System.out.println(about + what + ": " + got + ", due is " + due);
        }
    }

    void fails(String what, Class<? extends RuntimeException> due, Call call) {
        same(what + " throws", due.getSimpleName(), thrownBy(call));
    }

    private static String thrownBy(Call call) {
        try {
            call.make();
            return "nothing";
        } catch (RuntimeException e) {
            return e.getClass().getSimpleName();
        }
    }

    int wrong() {
        return wrong;
    }

    void end() {
        endOfOne();
        System.out.println((tests == 0 ? "" : tests + " sentences, ") + done + " checks, " + wrong + " wrong");
        if (wrong != 0 || done == 0) {
            System.exit(1);
        }
    }
}

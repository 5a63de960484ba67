import java.util.Objects;

/** Counts and prints what is not as it is due; a test ends by calling end(). */
final class Check {
    private int done;
    private int wrong;

    /** A call of the program, so that what it throws can be looked at. */
    interface Call {
        void make();
    }

    void same(String what, Object due, Object got) {
        done++;
        if (!Objects.equals(due, got)) {
            wrong++;
            System.out.println(what + ": " + got + ", due is " + due);
        }
    }

    void fails(String what, Class<? extends RuntimeException> due, Call call) {
        same(what + " throws", due.getSimpleName(), thrownBy(call));
    }

    private static String thrownBy(Call call) {
        try {
            call.make();
            return "nothing";
        } catch (RuntimeException e) {
            return e.getClass().getSimpleName();
        }
    }

    int wrong() {
        return wrong;
    }

    void end() {
        System.out.println(done + " checks, " + wrong + " wrong");
        if (wrong != 0 || done == 0) {
            System.exit(1);
        }
    }
}

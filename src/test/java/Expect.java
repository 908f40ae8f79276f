import java.util.Objects;

/** Counts what was looked at and tells what was not as due; a test ends with end(). */
final class Expect {
    interface Call {
        Object answer();
    }

    private int checks = 0;
    private int wrong = 0;

    boolean answers(Object due, Object got, String what) {
        checks++;
        boolean asDue = Objects.equals(due, got);
        if (!asDue) {
            wrong++;
            System.out.println(what + ": answered " + got + ", due is " + due);
        }
        return asDue;
    }

    void is(long due, long got, String what) {
        answers(due, got, what);
    }

    void yes(boolean got, String what) {
        answers(true, got, what);
    }

    boolean no(boolean got, String what) {
        return answers(false, got, what);
    }

    /** The very class, not one below it, is what a call of the face must throw. */
    void fails(Class<? extends RuntimeException> due, Call call, String what) {
        Object got;
        try {
            got = call.answer();
        } catch (RuntimeException e) {
            got = e.getClass();
        }
        answers(due, got, what);
    }

    void argument(Call call, String what) {
        fails(IllegalArgumentException.class, call, what);
    }

    void state(Call call, String what) {
        fails(IllegalStateException.class, call, what);
    }

    void index(Call call, String what) {
        fails(IndexOutOfBoundsException.class, call, what);
    }

    void element(Call call, String what) {
        fails(java.util.NoSuchElementException.class, call, what);
    }

    void end() {
        System.out.println(checks + " answers looked at, " + wrong + " not as due");
        if (wrong != 0 || checks == 0) {
            System.exit(1);
        }
    }
}

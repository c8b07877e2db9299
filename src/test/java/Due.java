import java.util.Objects;

/** Counts answers that are not as due; an exception is told by its class alone. */
final class Due {
    interface Call {
        long answer();
    }

    static final String INDEX = "throws.IndexOutOfBoundsException";
    static final String STATE = "throws.IllegalStateException";
    static final String ARGUMENT = "throws.IllegalArgumentException";

    private int wrong = 0;
    private int asked = 0;

    /** The class's own name, so that the machine's ArrayIndexOutOfBoundsException does not pass. */
    static String told(Call call) {
        try {
            return Long.toString(call.answer());
        } catch (RuntimeException e) {
            return "throws." + e.getClass().getSimpleName();
        }
    }

    void is(String what, long want, Call call) {
        same(what, Long.toString(want), told(call));
    }

    void is(String what, String want, Call call) {
        same(what, want, told(call));
    }

    void same(String what, String want, String got) {
        asked++;
        if (!Objects.equals(want, got)) {
            wrong++;
            if (wrong <= 50) {
                System.out.println(what + " answered " + got + ", due is " + want);
            }
        }
    }

    void end() {
        System.out.println(asked + " answers, " + wrong + " not as due");
        if (wrong != 0 || asked == 0) {
            System.exit(1);
        }
    }
}

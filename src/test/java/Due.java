import java.util.Objects;

/** Compares answers with those that are due, prints the wrong ones and ends the test. */
final class Due {
    /** A call whose answer, or whose exception, is looked at. */
    interface Call {
        Object answer();
    }

    private static final int MOST_PRINTED = 10;
    private static int compared = 0;
    private static int wrong = 0;
    private static int printed = 0;
    private static String about = "";

    private Due() {
    }

    /** What is written before every wrong answer from now on, anew up to the most. */
    static void about(String text) {
        about = text;
        printed = 0;
    }

    static void is(String call, Object got, Object due) {
        compared++;
        if (!Objects.equals(got, due)) {
            wrong++;
            printed++;
            if (printed <= MOST_PRINTED) {
                System.out.println(about + call + " answered " + got + ", due is " + due);
            }
        }
    }

    /** The exception must be of just this class: a class below it would be one of the machine's. */
    static void isThrown(String call, Class<? extends RuntimeException> due, Call made) {
        is(call, outcome(made), due.getName());
    }

    static Object outcome(Call made) {
        try {
            return made.answer();
        } catch (RuntimeException e) {
            return e.getClass().getName();
        }
    }

    static int compared() {
        return compared;
    }

    static void end() {
        System.out.println(wrong == 0 ? compared + " answers are as due" : wrong + " of " + compared + " answers are not as due");
        if (wrong != 0) {
            System.exit(1);
        }
    }
}

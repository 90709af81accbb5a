/** Collects answers that are not due; a test ends with exit code 1 if there was one. */
final class Checks {
    interface Call {
        int answer();
    }

    private int wrong;

    void due(String call, int want, int got) {
        if (got != want) {
            report(call + " answered " + got + ", due is " + want);
        }
    }

    void due(String call, boolean want, boolean got) {
        if (got != want) {
            report(call + " answered " + got + ", due is " + want);
        }
    }

    void due(String call, String want, String got) {
        if (!got.equals(want)) {
            report(call + " answered " + got + ", due is " + want);
        }
    }

    /** A call's answer, or the very class of what it throws, as one text. */
    static String answerOf(Call made) {
        try {
            return Integer.toString(made.answer());
        } catch (RuntimeException e) {
            return "throws." + e.getClass().getSimpleName();
        }
    }

    void badArgument(String call, Call made) {
        thrown(call, IllegalArgumentException.class, made);
    }

    void badState(String call, Call made) {
        thrown(call, IllegalStateException.class, made);
    }

    void badIndex(String call, Call made) {
        thrown(call, IndexOutOfBoundsException.class, made);
    }

    // The very class is asked for: a subclass would come from the machine.
    private void thrown(String call, Class<?> want, Call made) {
        due(call, "throws." + want.getSimpleName(), answerOf(made));
    }

    void report(String text) {
        wrong++;
        System.out.println(text);
    }

    boolean allAsDue() {
        return wrong == 0;
    }

    void end() {
        if (wrong != 0) {
            System.out.println(wrong + " answers are not as due");
            System.exit(1);
        }
    }
}

/** Counts the answers that are not as due; a test class ends with Check.end(). */
final class Check {
    interface Call {
        Object answer();
    }

    interface Action {
        void run();
    }

    static final Class<? extends RuntimeException> INDEX = IndexOutOfBoundsException.class;
    static final Class<? extends RuntimeException> ARGUMENT = IllegalArgumentException.class;
    static final Class<? extends RuntimeException> STATE = IllegalStateException.class;

    private static int wrong = 0;
    private static int checked = 0;

    private Check() {
    }

    static void due(String call, Object want, Object got) {
        checked++;
        if (!want.equals(got)) {
            wrong++;
            System.out.println(call + " answered " + got + ", due is " + want);
        }
    }

    /** The very class counts: what the Java machine throws is of a class below the due one. */
    static void dueThrow(String call, Class<? extends RuntimeException> want, Action action) {
        due(call, "throws." + want.getSimpleName(), answerOf(() -> {
            action.run();
            return "nothing thrown";
        }));
    }

    static String answerOf(Call call) {
        try {
            return String.valueOf(call.answer());
        } catch (RuntimeException e) {
            return "throws." + e.getClass().getSimpleName();
        }
    }

    static void end() {
        System.out.println(checked + " answers checked, " + wrong + " not as due");
        if (wrong != 0) {
            System.exit(1);
        }
    }
}

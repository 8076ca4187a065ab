import java.util.function.IntConsumer;

/** Counts the answers that are not as due; a test class ends with Check.end(). */
final class Check {
    interface Call {
        Object answer();
    }

    static final Class<? extends RuntimeException> INDEX = IndexOutOfBoundsException.class;
    static final Class<? extends RuntimeException> ARGUMENT = IllegalArgumentException.class;
    static final Class<? extends RuntimeException> STATE = IllegalStateException.class;
    static final String THROWS = "throws.";
    static final int[] TURNS = upTo(0, 29);
    static final int[] NO_TURNS = outside(0, 29);
    static final int[] SHIPS = upTo(0, 7);
    static final int[] BERTHS = upTo(0, 2);
    static final int[] NO_BERTHS = outside(0, 2);
    static final int[] KINDS = upTo(0, 2);

    private static int sentences = 0;
    private static int checked = 0;
    private static int wrong = 0;

    private Check() {
    }

    /** Takes a sentence of the document, word for word, and the test that fails if it is broken. */
    static void says(String sentence, Runnable test) {
        int wrongBefore = wrong;
        int checkedBefore = checked;
        try {
            test.run();
        } catch (RuntimeException e) {
            wrong++;
            System.out.println("a call threw " + e + " at " + e.getStackTrace()[0]);
        }
        sentences++;
        due("something was checked", true, checked > checkedBefore);
        if (wrong > wrongBefore) {
            System.out.println("    so this is broken: \"" + sentence + "\"");
        }
    }

    static void due(String call, Object want, Object got) {
        checked++;
        if (!want.equals(got)) {
            wrong++;
            System.out.println(call + " answered " + got + ", due is " + want);
        }
    }

    /** The very class counts: what the Java machine throws is of a class below the due one. */
    static void dueThrow(String call, Class<? extends RuntimeException> want, Runnable action) {
        due(call, THROWS + want.getSimpleName(), answerOf(() -> {
            action.run();
            return "nothing thrown";
        }));
    }

    /** Each of the values is refused. */
    static void dueThrows(String call, Class<? extends RuntimeException> want, int[] values, IntConsumer action) {
        for (int value : values) {
            dueThrow(call + " of " + value, want, () -> action.accept(value));
        }
    }

    static String answerOf(Call call) {
        try {
            return String.valueOf(call.answer());
        } catch (RuntimeException e) {
            return THROWS + e.getClass().getSimpleName();
        }
    }

    static int[] upTo(int least, int greatest) {
        int[] values = new int[greatest - least + 1];
        for (int i = 0; i < values.length; i++) {
            values[i] = least + i;
        }
        return values;
    }

    /** What is out of a range: just beside it, far from it, and what a mask or a narrow type would take for 0. */
    static int[] outside(int least, int greatest) {
        return new int[] {least - 1, greatest + 1, -32, -256, 256, 65536, Integer.MIN_VALUE, Integer.MAX_VALUE};
    }

    static void end() {
        System.out.println(sentences + " sentences, " + checked + " answers checked, " + wrong + " not as due");
        if (wrong != 0) {
            System.exit(1);
        }
    }
}

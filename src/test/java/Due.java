import java.util.function.IntFunction;

/** Counts the answers that are not the ones that are due, and ends a test by that. */
final class Due {
    interface Call {
        Object run();
    }

    private static int wrong = 0;
    private static int seen = 0;
    private static String about = "";

    private Due() {
    }

    /** What stands ahead of each wrong answer from here on. */
    static void about(String text) {
        about = text;
    }

    static void due(String what, Object got, Object want) {
        seen++;
        if (!want.equals(got)) {
            wrong++;
            System.out.println(about + what + " answered " + got + ", due is " + want);
        }
    }

    /** The call throws an exception of exactly this class. */
    static void thrown(String what, Class<?> want, Call call) {
        due(what, answer(call), "throws " + want.getSimpleName());
    }

    /**
     * The call throws, and the codex answers as before: a throwing method changes nothing. One
     * digest tells all of a codex, and leaves enough of its 512 calls.
     */
    static void thrownIdle(String what, Class<?> want, GooseCodex codex, Call call) {
        long before = codex.digest();
        thrown(what, want, call);
        due("digest after " + what, codex.digest(), before);
    }

    static void index(String what, GooseCodex codex, Call call) {
        thrownIdle(what, IndexOutOfBoundsException.class, codex, call);
    }

    static void argument(String what, GooseCodex codex, Call call) {
        thrownIdle(what, IllegalArgumentException.class, codex, call);
    }

    static void state(String what, GooseCodex codex, Call call) {
        thrownIdle(what, IllegalStateException.class, codex, call);
    }

    /** Numbers below 0, and from this count on, tell none of those that there are. */
    static void noSuch(String what, GooseCodex codex, int count, IntFunction<Object> call) {
        int[] none = {Integer.MIN_VALUE, -1, count, count + 1, Integer.MAX_VALUE};
        for (int number : none) {
            index(what + " of no. " + number, codex, () -> call.apply(number));
        }
    }

    /** Numbers below the least and above the most are refused. */
    static void outside(String what, GooseCodex codex, int least, int most,
            IntFunction<Object> call) {
        int[] refused = {Integer.MIN_VALUE, least - 1, most + 1, Integer.MAX_VALUE};
        for (int number : refused) {
            argument(what + " with " + number, codex, () -> call.apply(number));
        }
    }

    static Object answer(Call call) {
        try {
            return call.run();
        } catch (RuntimeException e) {
            return "throws " + e.getClass().getSimpleName();
        }
    }

    static void end() {
        System.out.println(wrong == 0
                ? "all " + seen + " answers are as due"
                : wrong + " of " + seen + " answers are not as due");
        if (wrong != 0) {
            System.exit(1);
        }
    }
}

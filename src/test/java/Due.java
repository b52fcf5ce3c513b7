/** Counts the answers that are not the ones that are due, and ends a test by that. */
final class Due {
    interface Call {
        Object run();
    }

    private static int wrong = 0;
    private static int seen = 0;

    private Due() {
    }

    static void due(String what, Object got, Object want) {
        seen++;
        if (!want.equals(got)) {
            wrong++;
            System.out.println(what + " answered " + got + ", due is " + want);
        }
    }

    /** The call throws an exception of exactly this class. */
    static void thrown(String what, Class<?> want, Call call) {
        due(what, answer(call), "throws " + want.getSimpleName());
    }

    /** The call throws, and the codex answers as before: a throwing method changes nothing. */
    static void thrownIdle(String what, Class<?> want, GooseCodex codex, Call call) {
        String before = Picture.of(codex);
        thrown(what, want, call);
        due("all after " + what, Picture.of(codex), before);
    }

    static void index(String what, GooseCodex codex, Call call) {
        thrownIdle(what, IndexOutOfBoundsException.class, codex, call);
    }

    static void argument(String what, GooseCodex codex, Call call) {
        thrownIdle(what, IllegalArgumentException.class, codex, call);
    }

    static void state(String what, GooseCodex codex, Call call) {
        thrownIdle(what, IllegalStateException.class, codex, call);
    }

    static Object answer(Call call) {
        try {
            return call.run();
        } catch (RuntimeException e) {
            return "throws " + e.getClass().getSimpleName();
        }
    }

    static void end() {
        System.out.println(wrong == 0
                ? "all " + seen + " answers are as due"
                : wrong + " of " + seen + " answers are not as due");
        if (wrong != 0) {
            System.exit(1);
        }
    }
}

import java.util.Objects;

/** What the tests share: they count what is not as due and end with exit code 1 if there was any. */
final class Check {
    interface Call {
        Object answer();
    }

    private static int checks;
    private static int wrong;

    private Check() {
    }

    static void is(String call, long got, long want) {
        compare(call, got, want);
    }

    static void is(String call, boolean got, boolean want) {
        compare(call, got, want);
    }

    static void is(String call, String got, String want) {
        compare(call, got, want);
    }

    private static void compare(String call, Object got, Object want) {
        checks++;
        if (!Objects.equals(got, want)) {
            wrong++;
            if (wrong <= 50) {
                System.out.println(call + " answered " + got + ", due is " + want);
            }
        }
    }

    /** The name of the exception has to be the one named itself, not that of a class below it. */
    static String outcome(Call call) {
        try {
            return String.valueOf(call.answer());
        } catch (RuntimeException e) {
            return "throws." + e.getClass().getSimpleName();
        }
    }

    static void noIndex(String name, Call call) {
        compare(name, outcome(call), "throws.IndexOutOfBoundsException");
    }

    static void noArgument(String name, Call call) {
        compare(name, outcome(call), "throws.IllegalArgumentException");
    }

    static void noState(String name, Call call) {
        compare(name, outcome(call), "throws.IllegalStateException");
    }

    static void done(String test) {
        System.out.println(test + ": " + checks + " checks, " + wrong + " wrong");
        if (wrong > 0 || checks == 0) {
            System.exit(1);
        }
    }
}

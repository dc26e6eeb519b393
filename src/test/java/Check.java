import java.util.List;

/** Counts answers that are not the due ones, and ends a test with exit code 1 if there was one. */
final class Check {
    interface Call {
        Object run();
    }

    private static int wrong = 0;
    private static int made = 0;
    private static int sentences = 0;
    private static String sentence = "";

    private Check() {
    }

    /** Runs the test of one sentence of the document; a test that looks at nothing is wrong too. */
    static void sentence(String text, Runnable test) {
        int before = made;
        sentences++;
        sentence = "[" + text + "] ";
        try {
            test.run();
        } catch (RuntimeException | AssertionError e) {
            tell("threw " + e);
        }
        if (made == before) {
            tell("nothing was looked at");
        }
        sentence = "";
    }

    static void due(String what, long got, long want) {
        made++;
        if (got != want) {
            tell(what + " answered " + got + ", due is " + want);
        }
    }

    static void holds(String what, boolean got) {
        made++;
        if (!got) {
            tell(what + " does not hold");
        }
    }

    static void same(String what, Object got, Object want) {
        made++;
        if (!want.equals(got)) {
            tell(what + " is\n" + got + "\ndue is\n" + want);
        }
    }

    /** The call throws IllegalArgumentException, and nothing is changed. */
    static void refusesArgument(String what, Chain x, Call call) {
        refuses(what, x, call, "IllegalArgumentException");
    }

    /** The call throws IllegalStateException, and nothing is changed. */
    static void refusesState(String what, Chain x, Call call) {
        refuses(what, x, call, "IllegalStateException");
    }

    private static void refuses(String what, Chain x, Call call, String exception) {
        List<Long> before = x.all();
        List<String> foreseen = x.foreseen();
        same(what, outcome(call), exception);
        same("the state after " + what, x.all(), before);
        same("what is to come after " + what, x.foreseen(), foreseen);
    }

    /** The answer as a text, or the name of what was thrown. */
    static String outcome(Call call) {
        try {
            return String.valueOf(call.run());
        } catch (RuntimeException e) {
            return e.getClass().getSimpleName();
        }
    }

    static int wrongSoFar() {
        return wrong;
    }

    static void end() {
        System.out.println(sentences + " sentences, " + made + " answers looked at, " + wrong + " not as due");
        if (wrong != 0 || made == 0) {
            System.exit(1);
        }
    }

    private static void tell(String text) {
        wrong++;
        if (wrong <= 40) {
            System.out.println(sentence + text);
        }
    }
}

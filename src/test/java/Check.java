/** Counts the answers that are not as due; each test class ends with end(). */
final class Check {
    private static int checks = 0;
    private static int wrong = 0;

    private Check() {
    }

    static void due(String what, long got, long want) {
        checks++;
        if (got != want) {
            tell(what + " answered " + got + ", due is " + want);
        }
    }

    static void holds(String what, boolean got) {
        checks++;
        if (!got) {
            tell(what + " does not hold");
        }
    }

    static void refuses(String what, Runnable call) {
        checks++;
        try {
            call.run();
        } catch (IllegalArgumentException e) {
            return;
        }
        tell(what + " does not throw IllegalArgumentException");
    }

    private static void tell(String text) {
        wrong++;
        if (wrong <= 50) {
            System.out.println("  " + text);
        }
    }

    static int wrongSoFar() {
        return wrong;
    }

    static void end() {
        System.out.println("  " + checks + " checks, " + wrong + " wrong");
        if (wrong != 0 || checks == 0) {
            System.exit(1);
        }
    }
}

/** What the tests share: each check that fails is printed, and end() leaves with exit code 1 if one did. */
final class Check {
    private static int checks = 0;
    private static int wrong = 0;

    private Check() {
    }

    static void same(String what, long got, long due) {
        tell(what, got == due, String.valueOf(got), String.valueOf(due));
    }

    static void same(String what, boolean got, boolean due) {
        tell(what, got == due, String.valueOf(got), String.valueOf(due));
    }

    /** Tells 0.0 from -0.0, too. */
    static void same(String what, double got, double due) {
        boolean right = Double.doubleToLongBits(got) == Double.doubleToLongBits(due);
        tell(what, right, String.valueOf(got), String.valueOf(due));
    }

    static void same(String what, String got, String due) {
        tell(what, got.equals(due), got, due);
    }

    static void outOfBounds(String what, Runnable call) {
        throwing(what, IndexOutOfBoundsException.class, call);
    }

    static void illegalArgument(String what, Runnable call) {
        throwing(what, IllegalArgumentException.class, call);
    }

    static void illegalState(String what, Runnable call) {
        throwing(what, IllegalStateException.class, call);
    }

    static void unsupported(String what, Runnable call) {
        throwing(what, UnsupportedOperationException.class, call);
    }

    static void end() {
        System.out.println(checks + " checks, " + wrong + " wrong");
        if (wrong != 0 || checks == 0) {
            System.exit(1);
        }
    }

    private static void throwing(String what, Class<? extends RuntimeException> due, Runnable call) {
        String got = "nothing";
        try {
            call.run();
        } catch (RuntimeException e) {
            // a subclass is the machine's own, such as ArrayIndexOutOfBoundsException
            got = e.getClass().getName();
        }
        tell(what, got.equals(due.getName()), "throws " + got, "throws " + due.getName());
    }

    private static void tell(String what, boolean right, String got, String due) {
        checks++;
        if (!right) {
            wrong++;
            System.out.println(what + " answered " + got + ", due is " + due);
        }
    }
}

/** Counts and prints the answers that are not due. */
final class Check {
    static final Class<? extends RuntimeException> INDEX = IndexOutOfBoundsException.class;
    static final Class<? extends RuntimeException> ARGUMENT = IllegalArgumentException.class;
    static final Class<? extends RuntimeException> STATE = IllegalStateException.class;
    static final Class<? extends RuntimeException> UNSUPPORTED = UnsupportedOperationException.class;
    static final Class<? extends RuntimeException> NO_ELEMENT = java.util.NoSuchElementException.class;
    static final Class<? extends RuntimeException> ARITHMETIC = ArithmeticException.class;

    private static int wrong = 0;

    interface Call {
        double run();
    }

    private Check() {
    }

    static void same(String what, double got, double due) {
        if (got != due) {
            fail(what + " answered " + got + ", due is " + due);
        }
    }

    /** Tells the first line that is not as due. */
    static void same(String what, String got, String due) {
        if (got.equals(due)) {
            return;
        }
        String[] lines = got.split("\n", -1);
        String[] dueLines = due.split("\n", -1);
        int at = 0;
        while (at < lines.length - 1 && at < dueLines.length - 1 && lines[at].equals(dueLines[at])) {
            at++;
        }
        fail(what + " answered in line " + (at + 1) + "\n" + lines[at] + "\ndue is\n" + dueLines[at]);
    }

    static void fails(String what, Class<? extends RuntimeException> due, Call call) {
        String got = outcome(call);
        if (!got.equals(due.getName())) {
            fail(what + " answered " + got + ", due is " + due.getName());
        }
    }

    /** The answer, or the name of the very class that was thrown. */
    static String outcome(Call call) {
        try {
            return String.valueOf(call.run());
        } catch (RuntimeException e) {
            return e.getClass().getName();
        }
    }

    static void fail(String message) {
        wrong++;
        if (wrong <= 20) {
            System.out.println(message);
        }
    }

    static void end() {
        if (wrong > 0) {
            System.out.println(wrong + " answers are not as due");
            System.exit(1);
        }
    }
}

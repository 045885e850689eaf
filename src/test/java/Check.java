/** What the tests share: they count the answers that are not due, and end with exit code 1 if there was one. */
final class Check {
    /** A call of the class under test; an answer of another type is given as a number. */
    interface Call {
        double answer();
    }

    private static int wrong;
    private static int checked;

    private Check() {
    }

    static void equal(String what, double got, double due) {
        checked++;
        if (got != due) {
            fault(what + " answered " + got + ", due is " + due);
        }
    }

    static void yes(String what, boolean got) {
        checked++;
        if (!got) {
            fault(what + " does not hold");
        }
    }

    static void same(String what, String got, String due) {
        checked++;
        if (!got.equals(due)) {
            fault(what + " answered " + got + ", due is " + due);
        }
    }

    /** The call must throw just this class, none below it, and leave all that can be seen of the object. */
    static void refuses(LoanServicing loan, Class<? extends RuntimeException> due, String what, Call call) {
        String before = Looks.at(loan);
        throwsOnly(due, what, call);
        same("what is seen after the refused " + what, Looks.at(loan), before);
    }

    static void throwsOnly(Class<? extends RuntimeException> due, String what, Call call) {
        checked++;
        try {
            double answer = call.answer();
            fault(what + " answered " + answer + ", due is " + due.getSimpleName());
        } catch (RuntimeException thrown) {
            if (thrown.getClass() != due) {
                fault(what + " threw " + thrown + ", due is " + due.getSimpleName());
            }
        }
    }

    static void finish(String test) {
        System.out.println(test + ": " + checked + " answers looked at, " + wrong + " not as due");
        if (wrong != 0) {
            System.exit(1);
        }
    }

    private static void fault(String text) {
        wrong++;
        if (wrong <= 40) {
            System.out.println(text);
        }
    }
}

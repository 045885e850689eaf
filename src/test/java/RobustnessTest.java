import java.lang.reflect.InvocationTargetException;
import java.lang.reflect.Method;
import java.util.Arrays;
import java.util.List;

/**
 * Calls with any arguments, many more than an object is used for: only the exceptions that a method declares come
 * out, each of just its class, and none of the machine's own (those are of other classes or have a message).
 */
final class RobustnessTest {
    private static final int RUNS = 20;
    private static final int CALLS = 4000;
    private static final int[] NUMBERS = {Integer.MIN_VALUE, Integer.MIN_VALUE + 1, -1000, -1, 0, 1, 2, 3, 4, 5, 8, 12, 23, 24,
        30, 31, 32, 59, 60, 61, 100, 500, 1000, 1001, 2000, 2001, 8000, 8001, 100000, 10000000, 10000001,
        Integer.MAX_VALUE - 8000, Integer.MAX_VALUE};

    private static long seed;

    public static void main(String[] args) throws ReflectiveOperationException {
        List<Method> methods = Calls.ofTheFace();
        for (int run = 0; run < RUNS; run++) {
            seed = 77L * run + 5;
            anyCalls(run, methods);
        }
        greatestLoan();
        manyCommands();
        Check.finish("RobustnessTest");
    }

    private static void anyCalls(int run, List<Method> methods) throws ReflectiveOperationException {
        LoanServicing x = new LoanServicing();
        for (int call = 0; call < CALLS; call++) {
            Method method = methods.get(below(methods.size()));
            Object[] arguments = new Object[method.getParameterCount()];
            for (int i = 0; i < arguments.length; i++) {
                Class<?> type = method.getParameterTypes()[i];
                arguments[i] = type == boolean.class ? (Object) (below(2) == 0)
                        : type == char.class ? (Object) (char) (below(4) == 0 ? below(65536) : "pdrhw;019".charAt(below(9)))
                        : (Object) (below(2) == 0 ? NUMBERS[below(NUMBERS.length)] : below(70));
            }
            try {
                method.invoke(x, arguments);
                Check.yes("an answer", true);
            } catch (InvocationTargetException wrapped) {
                Throwable thrown = wrapped.getCause();
                boolean declared = Arrays.asList(method.getExceptionTypes()).contains(thrown.getClass());
                Check.yes("run " + run + " call " + call + " " + method.getName() + Arrays.toString(arguments) + ": " + thrown,
                        declared && thrown.getMessage() == null);
            }
        }
    }

    /** Holidays on every due day with capitalizing, at the greatest rate: the debt grows to the last day. */
    private static void greatestLoan() {
        LoanServicing x = new LoanServicing();
        x.begin(10000000, 2000, 60, 1);
        x.set(4, 1);
        int calls = 2;
        while (x.date(0) < 8000) {
            for (int after = 0; after < 24; after++) {
                x.setHoliday(after, true);
                calls++;
            }
            x.pass(Math.min(700, 8000 - x.date(0)));
            calls++;
        }
        Check.yes("within the calls for which an object is used", calls <= 512);
        Check.yes("the principal has grown", x.number(0) > 700000000);
        Check.yes("it is an int still", x.number(3) > x.number(0));
        Check.yes("no bill was made", x.number(8) == 0);
        Check.yes("the installment of mode 1", x.installmentFor(1) > x.number(0));
        Check.yes("confirmed", x.isConfirmed());
        Check.equal("no more than is owed", x.pay(x.number(3)), 0);
        Check.yes("confirmed when settled", x.isConfirmed());
    }

    /** As many commands as calls: all of them are kept for isConfirmed. */
    private static void manyCommands() {
        LoanServicing x = new LoanServicing();
        x.begin(10000000, 1000, 60, 2);
        for (int i = 0; i < 510; i++) {
            if (i % 2 == 0) {
                x.pass(15);
            } else if (x.number(5) > 0 && i % 4 == 1) {
                x.setRate(1000 + i);
            } else {
                x.pay(100 + i);
            }
        }
        Check.yes("confirmed after 511 commands", x.isConfirmed());
        Check.equal("the last day of them", x.date(0), 255 * 15);
        Check.equal("the ledger is full", x.ledgerSize(), 60);
    }

    private static int below(int bound) {
        seed = seed * 6364136223846793005L + 1442695040888963407L;
        return (int) Math.floorMod(seed >>> 33, (long) bound);
    }
}

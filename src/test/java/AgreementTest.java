import java.lang.reflect.Method;
import java.util.List;

/** Runs of 512 calls, the same ones every time, on LoanServicing and on SlowLoan: every answer must be the same. */
final class AgreementTest {
    private static final int RUNS = 1500;
    private static final int CALLS = 512;

    private static long seed;
    private static int thrown;
    private static boolean isTextWhole;

    public static void main(String[] args) throws ReflectiveOperationException {
        List<Method> methods = Calls.ofTheFace();
        for (int run = 0; run < RUNS; run++) {
            seed = 1000003L * run + 17;
            oneRun(run, methods);
        }
        Check.yes("calls throw often enough to be compared", thrown > RUNS * 20);
        Check.finish("AgreementTest");
    }

    private static void oneRun(int run, List<Method> methods) throws ReflectiveOperationException {
        LoanServicing loan = new LoanServicing();
        SlowLoan slow = new SlowLoan();
        StringBuilder told = new StringBuilder();
        String pending = "";
        for (int call = 0; call < CALLS; call++) {
            boolean isOver = slow.number(5) == 0 && below(12) == 0;
            Method method = choose(run, isOver ? 0 : call, methods, pending);
            Object[] arguments = new Object[method.getParameterCount()];
            fill(arguments, method, run, slow);
            if (method.getName().equals("append")) {
                if (pending.isEmpty() && below(12) > 0) {
                    pending = text(slow);
                }
                if (!pending.isEmpty()) {
                    arguments[0] = pending.charAt(0);
                    pending = pending.substring(1);
                    isTextWhole = pending.isEmpty();
                }
            }
            String got = Calls.answer(method, loan, arguments);
            Method twin = SlowLoan.class.getDeclaredMethod(method.getName(), method.getParameterTypes());
            String due = Calls.answer(twin, slow, arguments);
            thrown += Calls.isException(due) ? 1 : 0;
            String name = method.getName() + java.util.Arrays.toString(arguments);
            told.append(name).append(' ');
            Check.same("run " + run + " call " + call + " " + name, got, due);
            if (!got.equals(due)) {
                System.out.println(told);
                return;
            }
        }
        Check.yes("run " + run + " is confirmed", loan.isConfirmed());
    }

    private static Method choose(int run, int call, List<Method> methods, String pending) {
        String name = "";
        if (!pending.isEmpty()) {
            name = "append";
        } else if (isTextWhole) {
            isTextWhole = false;
            name = below(8) == 0 ? "" : "execute";
        } else if (call == 0 && run % 5 != 0) {
            name = "begin";
        } else {
            switch (below(run % 3 == 0 ? 40 : 16)) {
                case 0:
                case 1:
                case 2:
                    name = "pass";
                    break;
                case 3:
                    name = "pay";
                    break;
                case 4:
                    name = "setHoliday";
                    break;
                case 5:
                    name = "setRate";
                    break;
                case 6:
                    name = "set";
                    break;
                default:
                    break;
            }
        }
        for (Method method : methods) {
            if (method.getName().equals(name)) {
                return method;
            }
        }
        Method method = methods.get(below(methods.size()));
        boolean isRare = method.getName().equals("begin") || method.getName().equals("restore");
        return isRare && below(4) > 0 ? methods.get(below(methods.size())) : method;
    }

    private static void fill(Object[] arguments, Method method, int run, SlowLoan slow) {
        Class<?>[] types = method.getParameterTypes();
        for (int i = 0; i < types.length; i++) {
            if (types[i] == boolean.class) {
                arguments[i] = below(2) == 0;
            } else if (types[i] == char.class) {
                arguments[i] = (char) (below(12) == 0 ? below(200) : "pdrhw;0123456789".charAt(below(16)));
            } else {
                arguments[i] = below(25) == 0 ? odd() : usual(method.getName(), i, run, slow);
            }
        }
    }

    private static int odd() {
        int[] numbers = {Integer.MIN_VALUE, Integer.MAX_VALUE, -1, 0, 1, 2, 5, 23, 24, 31, 60, 61, 1000, 1001, 2000, 2001,
            8000, 8001, 10000000, 10000001, 100000, 100001};
        return numbers[below(numbers.length)];
    }

    private static int usual(String name, int place, int run, SlowLoan slow) {
        switch (name) {
            case "begin":
                int[] most = {run % 4 == 0 ? 10000000 : run % 4 == 1 ? 500 : 200000, 2001, run % 2 == 0 ? 60 : 6, 3};
                return place == 0 || place == 2 ? 1 + below(most[place]) : below(most[place]);
            case "pass":
                return 1 + (below(12) == 0 ? below(200) : run % 2 == 0 ? below(40) : below(12));
            case "countedDays":
                return place == 2 ? below(3) : place == 0 ? below(6000) : 4000 + below(4001);
            case "set":
                return place == 0 ? below(5) : below(6) == 0 ? below(2000) : below(3) == 0 ? below(31) : below(2);
            case "setRate":
                return below(3) == 0 ? slow.number(9) : below(2001);
            case "setHoliday":
                return below(3) == 0 ? below(24) : below(4);
            case "pay":
            case "explain":
                return place == 1 ? below(6) : amount(slow);
            case "waive":
                return below(3) == 0 ? slow.number(2) : 1 + below(300);
            case "ledger":
                return place == 0 ? below(61) : below(3);
            case "installmentFor":
                return 1 + below(60);
            case "copyRow":
            case "stored":
            case "schedule":
            case "storeSchedule":
                return place == 0 ? below(name.equals("schedule") ? 40 : 2) : below(name.equals("schedule") ? 5 : 12);
            default:
                return below(10);
        }
    }

    private static int amount(SlowLoan slow) {
        switch (below(14)) {
            case 0:
                return slow.number(3) + (below(3) == 0 ? 1 : 0);
            case 1:
            case 2:
                return Math.max(slow.number(7), 1);
            case 3:
                return slow.number(7) + 1 + below(500);
            case 4:
                return below(3) > 0 ? 1 + below(9) : slow.number(1) + slow.number(0);
            case 5:
                return 1 + below(Math.max(slow.number(3), 1));
            case 6:
                return 1 + below(20);
            default:
                return slow.number(4);
        }
    }

    private static String text(SlowLoan slow) {
        StringBuilder made = new StringBuilder();
        int commands = 1 + below(4);
        for (int i = 0; i < commands; i++) {
            char letter = "pddrhw".charAt(below(6));
            int value = letter == 'p' ? Math.max(amount(slow), 0) : letter == 'd' ? 1 + below(40)
                    : letter == 'r' ? below(2001) : letter == 'h' ? below(24) : Math.max(slow.number(2), 1);
            made.append(i == 0 ? "" : ";").append(letter).append(value);
        }
        if (below(5) == 0) {
            made.setCharAt(below(made.length()), "pdrhw;0123456789 x".charAt(below(18)));
        }
        return made.toString();
    }

    private static int below(int bound) {
        seed = seed * 6364136223846793005L + 1442695040888963407L;
        return (int) Math.floorMod(seed >>> 33, (long) bound);
    }
}

/** Promises 1 to 11: a new object, begin, pass, date, countedDays, set, setRate, setHoliday, pay, waive, explain. */
final class LoanPromisesTest {
    private static final Class<IllegalArgumentException> ARGUMENT = IllegalArgumentException.class;
    private static final Class<IllegalStateException> STATE = IllegalStateException.class;
    private static final Class<UnsupportedOperationException> UNSUPPORTED = UnsupportedOperationException.class;
    private static final Class<IndexOutOfBoundsException> INDEX = IndexOutOfBoundsException.class;

    public static void main(String[] args) {
        promise1();
        promise2();
        promise2LeastInstallment();
        promise3();
        promise3LateBills();
        promise3Holidays();
        promise3Rounding();
        promise3AfterTheLastBill();
        promise4();
        promise5();
        promise6();
        promise7();
        promise8();
        promise9();
        promise9Orders();
        promise9Adjusting();
        promise9FeesAlone();
        promise10();
        promise11();
        Check.finish("LoanPromisesTest");
    }

    /** One percent a month: with the convention 2 and the rate 1200 a month is 30 counted days. */
    private static LoanServicing percentLoan() {
        LoanServicing x = new LoanServicing();
        Check.equal("begin(100000, 1200, 3, 2)", x.begin(100000, 1200, 3, 2), 34003);
        return x;
    }

    private static LoanServicing freeLoan(int principal, int installments) {
        LoanServicing x = new LoanServicing();
        x.begin(principal, 0, installments, 0);
        return x;
    }

    private static void promise1() {
        LoanServicing x = new LoanServicing();
        Check.equal("the day", x.date(0), 0);
        for (int what = 0; what <= 9; what++) {
            Check.equal("number " + what, x.number(what), what == 6 ? -1 : 0);
        }
        for (int what = 0; what <= 7; what++) {
            Check.equal("total " + what, x.total(what), 0);
        }
        Check.equal("condition", x.condition(), 0);
        Check.equal("units", x.accruedUnits(), 0);
        Check.equal("ledgerSize", x.ledgerSize(), 0);
        Check.equal("scheduleLength", x.scheduleLength(), 0);
        int[] due = {0, 0, 10, 500, 0};
        for (int rule = 0; rule < 5; rule++) {
            Check.equal("rule " + rule, x.set(rule, 0), due[rule]);
        }
        Check.refuses(new LoanServicing(), STATE, "undo of nothing", () -> new LoanServicing().undo());
    }

    private static void promise2() {
        LoanServicing x = percentLoan();
        int[] due = {100000, 0, 0, 100000, 34003, 3, 31, 0, 0, 1200};
        for (int what = 0; what <= 9; what++) {
            Check.equal("number " + what, x.number(what), due[what]);
        }
        x.set(0, 3);
        x.set(1, 1);
        x.set(2, 2);
        x.set(3, 700);
        x.set(4, 1);
        x.setHoliday(5, true);
        x.pass(40);
        x.pay(100);
        Check.equal("begin in place of another", x.begin(1000, 0, 3, 1), 334);
        int[] then = {1000, 0, 0, 1000, 334, 3, 40 + 28, 0, 0, 0};
        for (int what = 0; what <= 9; what++) {
            Check.equal("number " + what + " of the second loan", x.number(what), then[what]);
        }
        for (int what = 0; what <= 7; what++) {
            Check.equal("total " + what + " of the second loan", x.total(what), 0);
        }
        Check.equal("the units of the second loan", x.accruedUnits(), 0);
        Check.equal("the ledger of the second loan", x.ledgerSize(), 0);
        Check.equal("the schedule has no holidays", x.scheduleLength(), 3);
        Check.equal("a holiday of the first loan", x.setHoliday(4, true) ? 1 : 0, 0);
        Check.equal("the order stays", x.set(0, 0), 3);
        Check.equal("the mode stays", x.set(1, 0), 1);
        Check.equal("the grace stays", x.set(2, 0), 2);
        Check.equal("the late fee stays", x.set(3, 0), 700);
        Check.equal("capitalizing stays", x.set(4, 0), 1);

        int[][] refused = {{0, 0, 1, 0}, {10000001, 0, 1, 0}, {1, -1, 1, 0}, {1, 2001, 1, 0}, {1, 0, 0, 0}, {1, 0, 61, 0},
            {1, 0, 1, -1}, {1, 0, 1, 3}, {Integer.MIN_VALUE, Integer.MAX_VALUE, Integer.MAX_VALUE, Integer.MIN_VALUE}};
        for (int[] a : refused) {
            Check.refuses(x, ARGUMENT, "begin" + java.util.Arrays.toString(a), () -> x.begin(a[0], a[1], a[2], a[3]));
        }
        LoanServicing y = new LoanServicing();
        Check.equal("the smallest loan", y.begin(1, 0, 1, 0), 1);
        Check.equal("the greatest loan without interest", y.begin(10000000, 0, 60, 2), 166667);
        Check.yes("the greatest rate", y.begin(10000000, 2000, 60, 1) > 166667);
        Check.equal("a cent in 60 installments", y.begin(1, 0, 60, 0), 1);
    }

    /** The least one: with one cent less the last payment is too great. Looked for from 1 on in SlowLoan's way. */
    private static void promise2LeastInstallment() {
        int[][] loans = {{100, 2000, 12}, {777, 1999, 7}, {1000, 0, 7}, {1, 2000, 60}, {59, 0, 60}, {61, 0, 60},
            {5000, 1200, 60}, {333, 800, 2}, {4321, 450, 1}};
        for (int[] a : loans) {
            for (int convention = 0; convention <= 2; convention++) {
                LoanServicing x = new LoanServicing();
                int installment = x.begin(a[0], a[1], a[2], convention);
                int payments = x.scheduleLength();
                Check.yes("the last payment is not greater", x.schedule(payments - 1, 1) <= installment);
                Check.equal("the least installment of " + java.util.Arrays.toString(a), installment,
                        leastByTrying(a[0], a[1], a[2], convention));
            }
        }
    }

    private static int leastByTrying(int principal, int rate, int installments, int convention) {
        long cent = 10000L * (convention == 0 ? 365 : 360);
        int[] lengths = {31, 28, 31, 30, 31, 30, 31, 31, 30, 31, 30, 31};
        for (int amount = 1;; amount++) {
            long left = principal;
            long interest = 0;
            long units = 0;
            long last = amount;
            for (int i = 0; i < installments && left + interest > 0; i++) {
                units += left * rate * (convention == 2 ? 30 : lengths[i % 12]);
                long posted = Math.floorDiv(2 * units + cent, 2 * cent);
                units -= posted * cent;
                interest += posted;
                last = i == installments - 1 ? left + interest : Math.min(amount, left + interest);
                long ofInterest = Math.min(last, interest);
                interest -= ofInterest;
                left -= last - ofInterest;
            }
            if (last <= amount) {
                return amount;
            }
        }
    }

    private static void promise3() {
        LoanServicing x = percentLoan();
        Check.equal("pass to the eve of the due day", x.pass(30), 0);
        Check.equal("the units of 29 counted days", x.accruedUnits(), 100000L * 1200 * 29);
        Check.equal("nothing is billed", x.number(7), 0);
        Check.equal("pass to the due day", x.pass(1), 1);
        Check.equal("the units are posted", x.accruedUnits(), 0);
        Check.equal("the interest", x.number(1), 1000);
        Check.equal("the bill", x.number(7), 34003);
        Check.equal("the bills", x.number(8), 1);
        Check.equal("the remaining installments", x.number(5), 2);
        Check.equal("the next due day", x.number(6), 59);
        Check.equal("pass over two due days and two late days", x.pass(69), 4);
        Check.equal("the last bill has all the principal and the interest", x.number(7), 34003 * 2 + 100000 + 3000);
        Check.equal("no installments remain", x.number(5), 0);
        Check.equal("there is no next due day", x.number(6), -1);
        Check.equal("the fees", x.number(2), 2 * 500);

        Check.refuses(x, ARGUMENT, "pass(0)", () -> x.pass(0));
        Check.refuses(x, ARGUMENT, "pass(1001)", () -> x.pass(1001));
        Check.refuses(x, ARGUMENT, "pass(-1)", () -> x.pass(-1));
        Check.refuses(x, ARGUMENT, "pass of the greatest number", () -> x.pass(Integer.MAX_VALUE));
        LoanServicing y = new LoanServicing();
        for (int i = 0; i < 8; i++) {
            Check.equal("pass(1000) without a loan", y.pass(i == 7 ? 999 : 1000), 0);
        }
        Check.refuses(y, STATE, "pass beyond the last day", () -> y.pass(2));
        Check.refuses(y, ARGUMENT, "pass(1001) near the last day", () -> y.pass(1001));
        Check.equal("pass to the last day", y.pass(1), 0);
        Check.equal("the last day", y.date(0), 8000);
        Check.refuses(y, STATE, "pass on the last day", () -> y.pass(1));

        LoanServicing cent = freeLoan(1, 60);
        Check.equal("60 installments of a cent", cent.number(5), 60);
        Check.equal("the first is all there is", cent.pass(31), 1);
        Check.equal("the bill of a cent", cent.number(7), 1);
        Check.equal("so none remain", cent.number(5), 0);
        Check.equal("it becomes late", cent.pass(11), 1);

        LoanServicing z = freeLoan(300, 3);
        z.pay(100);
        Check.equal("a prepayment of one installment shortens", z.number(5), 2);
        Check.equal("an installment that is all that is left", z.pass(60), 3);
        Check.equal("a bill is made for the rest", z.number(7), 100 + 200);
    }

    private static void promise3LateBills() {
        LoanServicing x = freeLoan(300, 3);
        x.pass(31);
        Check.equal("the last day of grace", x.pass(10), 0);
        Check.equal("the condition in time", x.condition(), 1);
        Check.equal("the day after the grace", x.pass(1), 1);
        Check.equal("the condition when late", x.condition(), 2);
        Check.equal("the fee", x.number(2), 500);
        Check.equal("late once only", x.pass(5), 0);

        LoanServicing y = freeLoan(300, 3);
        y.set(2, 30);
        y.pass(45);
        y.set(2, 5);
        Check.equal("a shorter grace does not work at once", y.condition(), 1);
        Check.equal("but on the next day", y.pass(1), 1);
        Check.equal("the condition then", y.condition(), 2);

        LoanServicing z = freeLoan(300, 3);
        z.set(2, 0);
        z.set(3, 0);
        z.pass(31);
        Check.equal("late without a fee", z.pass(1), 1);
        Check.equal("no fee", z.number(2), 0);
        Check.equal("no entry of a fee", z.ledgerSize(), 1);
        Check.equal("late in any case", z.condition(), 2);
        z.pay(99);
        Check.equal("still late", z.condition(), 2);
        z.pay(1);
        Check.equal("not late when paid", z.condition(), 1);

        LoanServicing w = freeLoan(300, 3);
        w.pass(31);
        w.pay(100);
        Check.equal("a paid bill does not become late", w.pass(20), 0);

        LoanServicing v = freeLoan(300, 3);
        v.set(2, 27);
        v.pass(58);
        Check.equal("late and due on the same day", v.pass(1), 2);
        Check.equal("first the late fee", v.ledger(1, 0), 3);
        Check.equal("then the bill", v.ledger(2, 0), 2);
    }

    private static void promise3Holidays() {
        LoanServicing x = percentLoan();
        x.setHoliday(0, true);
        Check.equal("its interest takes one installment more", x.number(5), 4);
        Check.equal("a holiday bills nothing", x.pass(31), 0);
        Check.equal("its interest is posted", x.number(1), 1000);
        Check.equal("no installment is used up by it", x.number(5), 4);
        Check.equal("nor added to the principal", x.number(0), 100000);
        Check.equal("the one after it is none", x.pass(28), 1);
        Check.equal("the interest of two months", x.number(1), 2000);

        LoanServicing y = percentLoan();
        y.set(4, 1);
        y.setHoliday(0, true);
        y.pass(31);
        Check.equal("the interest is added", y.number(0), 101000);
        Check.equal("and becomes 0", y.number(1), 0);
        Check.equal("the sum of what was added", y.total(7), 1000);
        y.pass(28);
        Check.equal("interest accrues on it", y.number(1), 1010);
        Check.equal("no holiday, nothing added", y.number(0), 101000);
    }

    private static void promise3Rounding() {
        LoanServicing x = new LoanServicing();
        x.begin(150, 1200, 2, 2);
        x.pass(10);
        Check.equal("half a cent", x.accruedUnits(), 1800000);
        Check.equal("half a cent counts upwards", x.number(3), 151);
        x.pay(1);
        Check.equal("what makes up the cent is subtracted", x.accruedUnits(), -1800000);
        Check.equal("half a cent too much counts as none", x.number(3), 150);
        x.pay(1);
        Check.equal("no interest is taken back", x.total(4), 1);

        LoanServicing y = new LoanServicing();
        y.begin(149, 1200, 2, 2);
        y.pass(10);
        Check.equal("less than half a cent", y.number(3), 149);

        LoanServicing z = new LoanServicing();
        z.begin(18250, 100, 2, 0);
        z.pass(1);
        Check.equal("half a cent with the basis 365", z.accruedUnits(), 1825000);
        Check.equal("upwards as well", z.number(3), 18251);
        z.pay(1);
        Check.equal("a cent has 3650000 units", z.accruedUnits(), -1825000);
        LoanServicing w = new LoanServicing();
        w.begin(18000, 100, 2, 1);
        w.pass(1);
        Check.equal("half a cent with the basis 360", w.accruedUnits(), 1800000);
        Check.equal("upwards, too", w.number(3), 18001);
        w.pay(1);
        Check.equal("a cent has 3600000 units", w.accruedUnits(), -1800000);
    }

    private static void promise3AfterTheLastBill() {
        LoanServicing x = new LoanServicing();
        x.begin(100000, 1200, 1, 2);
        Check.equal("the only bill", x.pass(31), 1);
        Check.equal("it has all", x.number(7), 101000);
        x.pass(59);
        Check.equal("no due day posts any more", x.number(1), 1000);
        Check.equal("but interest accrues", x.accruedUnits(), 100000L * 1200 * 60);
        Check.equal("the debt as it would be", x.number(3), 100000 + 3000 + 500);
    }

    private static void promise4() {
        LoanServicing x = new LoanServicing();
        int[][] due = {{0, 0, 0, 1}, {30, 0, 0, 31}, {31, 0, 1, 1}, {58, 0, 1, 28}, {59, 0, 2, 1}, {364, 0, 11, 31},
            {365, 1, 0, 1}, {365 + 181, 1, 6, 1}, {365 + 212, 1, 7, 1}, {2 * 365 + 300, 2, 9, 28}};
        for (int[] d : due) {
            if (d[0] > x.date(0)) {
                x.pass(d[0] - x.date(0));
            }
            for (int part = 0; part <= 3; part++) {
                Check.equal("part " + part + " of day " + d[0], x.date(part), d[part]);
            }
        }
        LoanServicing y = new LoanServicing();
        int[] lengths = {31, 28, 31, 30, 31, 30, 31, 31, 30, 31, 30, 31};
        for (int day = 0, month = 0, number = 1; day < 800; day++) {
            Check.equal("the month of day " + day, y.date(2), month % 12);
            Check.equal("the number of day " + day, y.date(3), number);
            y.pass(1);
            number = number == lengths[month % 12] ? 1 : number + 1;
            month += number == 1 ? 1 : 0;
        }
        Check.refuses(x, ARGUMENT, "date(-1)", () -> x.date(-1));
        Check.refuses(x, ARGUMENT, "date(4)", () -> x.date(4));
    }

    private static void promise5() {
        LoanServicing x = new LoanServicing();
        Check.equal("days of the convention 0", x.countedDays(30, 59, 0), 29);
        Check.equal("days of the convention 1", x.countedDays(0, 8000, 1), 8000);
        Check.equal("a 31 is a 30", x.countedDays(30, 59, 2), 31);
        Check.equal("a 31 at the end", x.countedDays(29, 30, 2), 0);
        Check.equal("a 31 to a 31", x.countedDays(30, 89, 2), 60);
        Check.equal("over the end of February", x.countedDays(58, 59, 2), 3);
        Check.equal("a year", x.countedDays(100, 465, 2), 360);
        Check.equal("from a day to itself", x.countedDays(8000, 8000, 2), 0);
        Check.equal("over years and months", x.countedDays(364, 365 + 59, 2), 61);
        int[][] refused = {{-1, 5, 0}, {5, 4, 0}, {0, 8001, 0}, {8001, 8001, 0}, {0, 1, -1}, {0, 1, 3}};
        for (int[] a : refused) {
            Check.refuses(x, ARGUMENT, "countedDays" + java.util.Arrays.toString(a), () -> x.countedDays(a[0], a[1], a[2]));
        }
    }

    private static void promise6() {
        LoanServicing x = new LoanServicing();
        int[] most = {5, 1, 30, 100000, 1};
        int[] first = {0, 0, 10, 500, 0};
        for (int rule = 0; rule < 5; rule++) {
            int r = rule;
            Check.equal("the first value", x.set(rule, most[rule]), first[rule]);
            Check.refuses(x, ARGUMENT, "set beyond the most", () -> x.set(r, most[r] + 1));
            Check.refuses(x, ARGUMENT, "set below 0", () -> x.set(r, -1));
            Check.equal("the greatest value", x.set(rule, 0), most[rule]);
            Check.equal("the least value", x.set(rule, 0), 0);
        }
        Check.refuses(x, INDEX, "set(5, 0)", () -> x.set(5, 0));
        Check.refuses(x, INDEX, "set(-1, 0)", () -> x.set(-1, 0));
        Check.refuses(x, INDEX, "a rule and a value that are not there", () -> x.set(5, -1));
        LoanServicing y = freeLoan(300, 3);
        y.set(3, 40);
        y.pass(42);
        y.set(3, 50);
        y.pass(28);
        Check.equal("a late fee works from when it is set", y.number(2), 90);
        y.set(1, 1);
        Check.equal("setting a mode adjusts nothing", y.number(5), 1);
    }

    private static void promise7() {
        LoanServicing x = percentLoan();
        x.pass(5);
        Check.equal("setRate", x.setRate(2000), 1200);
        Check.equal("the units until then stay", x.accruedUnits(), 100000L * 1200 * 5);
        x.pass(1);
        Check.equal("the new rate from then on", x.accruedUnits(), 100000L * 1200 * 5 + 100000L * 2000);
        Check.equal("setRate again", x.setRate(0), 2000);

        LoanServicing y = freeLoan(300, 3);
        y.pass(31);
        Check.equal("one installment is used up", y.number(5), 2);
        Check.equal("the rate that there is", y.setRate(0), 0);
        Check.equal("adjusts, for at most 60", y.number(5), 3);
        Check.equal("the installment stays", y.number(4), 100);
        y.set(1, 1);
        y.setRate(0);
        Check.equal("mode 1 keeps the number", y.number(5), 3);
        y.pass(28);
        y.setRate(0);
        Check.equal("mode 1 finds the installment", y.number(4), 150);
        Check.equal("mode 1 keeps the number again", y.number(5), 2);

        LoanServicing z = freeLoan(6100, 60);
        z.pass(31 + 28);
        Check.equal("58 are left", z.number(5), 58);
        z.setRate(2000);
        Check.equal("at most 60", z.number(5), 60);
        Check.refuses(z, ARGUMENT, "setRate(-1)", () -> z.setRate(-1));
        Check.refuses(z, ARGUMENT, "setRate(2001)", () -> z.setRate(2001));
        LoanServicing none = new LoanServicing();
        Check.refuses(none, STATE, "setRate without a loan", () -> none.setRate(5));
        Check.refuses(none, ARGUMENT, "setRate(2001) without a loan", () -> none.setRate(2001));
        LoanServicing settled = freeLoan(10, 2);
        settled.pay(10);
        Check.refuses(settled, STATE, "setRate of a settled loan", () -> settled.setRate(5));
        LoanServicing billed = freeLoan(10, 1);
        billed.pass(31);
        Check.equal("setRate when no installments remain", billed.setRate(100), 0);
        Check.equal("the rate then", billed.number(9), 100);
        Check.equal("still none remain", billed.number(5), 0);
    }

    private static void promise8() {
        LoanServicing x = freeLoan(300, 3);
        x.pass(31);
        Check.yes("it was none", !x.setHoliday(0, true));
        Check.equal("the change adjusts for at most 60", x.number(5), 3);
        x.pass(28);
        Check.equal("it was a holiday", x.number(5), 3);
        Check.yes("the due days move on", !x.setHoliday(0, false));
        x.setHoliday(23, true);
        x.setHoliday(5, true);
        x.pass(31);
        Check.yes("four after the next one", x.setHoliday(4, true));
        Check.equal("no change, not adjusted", x.number(5), 2);
        Check.yes("22 after the next one", x.setHoliday(22, false));
        Check.equal("taking one away adjusts", x.number(5), 3);
        x.setHoliday(0, true);
        x.setHoliday(1, true);
        Check.equal("the first payment comes after the holidays", x.schedule(0, 0), 181);
        Check.refuses(x, ARGUMENT, "setHoliday(24)", () -> x.setHoliday(24, true) ? 1 : 0);
        Check.refuses(x, ARGUMENT, "setHoliday(-1)", () -> x.setHoliday(-1, true) ? 1 : 0);
        LoanServicing none = new LoanServicing();
        Check.refuses(none, STATE, "setHoliday without a loan", () -> none.setHoliday(0, true) ? 1 : 0);
        Check.refuses(none, ARGUMENT, "setHoliday(24) without a loan", () -> none.setHoliday(24, true) ? 1 : 0);
        LoanServicing billed = freeLoan(10, 1);
        billed.pass(31);
        Check.refuses(billed, STATE, "setHoliday when none remain", () -> billed.setHoliday(0, true) ? 1 : 0);

        LoanServicing last = freeLoan(100, 1);
        Check.yes("the last installment can have a holiday", !last.setHoliday(0, true));
        last.set(1, 1);
        last.setRate(1200);
        Check.equal("and be adjusted", last.number(4), 102);

        LoanServicing y = percentLoan();
        y.set(1, 1);
        y.setHoliday(0, true);
        Check.equal("a holiday raises the installment of mode 1", y.number(4), 34339);
        y.set(4, 1);
        y.setHoliday(1, true);
        y.setHoliday(1, false);
        Check.equal("with capitalizing the projection adds the interest", y.number(4), 34343);
        Check.equal("its principal is what was paid", y.schedule(0, 2), 1010);
    }

    private static void promise9() {
        LoanServicing x = percentLoan();
        x.pass(31);
        Check.equal("pay returns the debt that remains", x.pay(1500), 101000 - 1500);
        Check.equal("first the interest", x.number(1), 0);
        Check.equal("then the principal", x.number(0), 99500);
        Check.equal("the bill decreases by all of it", x.number(7), 34003 - 1500);
        Check.equal("a payment of a part adjusts nothing", x.number(5), 2);
        x.pass(15);
        int debt = x.number(3);
        Check.refuses(x, UNSUPPORTED, "a payment of more than the debt", () -> x.pay(debt + 1));
        Check.refuses(x, ARGUMENT, "pay(0)", () -> x.pay(0));
        Check.refuses(x, ARGUMENT, "pay(-5)", () -> x.pay(-5));
        Check.equal("the whole debt after posting", x.pay(debt), 0);
        Check.equal("settled", x.condition(), 4);
        Check.equal("none remain", x.number(5), 0);
        Check.equal("all bills are paid", x.number(8), 0);
        Check.equal("and their sum", x.number(7), 0);
        Check.equal("no units", x.accruedUnits(), 0);
        Check.equal("the installment stays", x.number(4), 34003);
        Check.refuses(x, STATE, "pay when settled", () -> x.pay(1));
        Check.refuses(x, ARGUMENT, "pay(0) when settled", () -> x.pay(0));
        Check.equal("nothing happens then", x.pass(200), 0);
        LoanServicing none = new LoanServicing();
        Check.refuses(none, STATE, "pay without a loan", () -> none.pay(1));
        Check.refuses(none, ARGUMENT, "pay(0) without a loan", () -> none.pay(0));

        LoanServicing y = freeLoan(300, 3);
        y.set(2, 30);
        y.pass(59);
        y.pay(150);
        Check.equal("the oldest bill first", y.number(8), 1);
        Check.equal("then the next", y.number(7), 50);
        y.pay(50);
        Check.equal("all that was billed", y.number(8), 0);
        Check.equal("the last one remains", y.number(5), 1);
    }

    private static void promise9Orders() {
        String[] orders = {"FIP", "FPI", "IFP", "IPF", "PFI", "PIF"};
        for (int order = 0; order < 6; order++) {
            for (int amount : new int[] {300, 700, 1200, 1600, 100400, 101200, 101400}) {
                LoanServicing x = percentLoan();
                x.pass(42);
                x.set(0, order);
                x.set(1, 1);
                int[] has = {500, 1000 + 367, 100000};
                Check.equal("the debt", x.number(3), has[0] + has[1] + has[2]);
                int rest = amount;
                for (char part : orders[order].toCharArray()) {
                    int place = "FIP".indexOf(part);
                    int paid = Math.min(rest, has[place]);
                    Check.equal("explain " + part + " of " + amount + " in order " + order, x.explain(amount, place), paid);
                    rest -= paid;
                }
                int[] paid = {x.explain(amount, 0), x.explain(amount, 1), x.explain(amount, 2)};
                x.pay(amount);
                for (int place = 0; place < 3; place++) {
                    Check.equal("paid of " + place, x.total(1 + place), paid[place]);
                }
                Check.equal("the fees", x.number(2), has[0] - paid[0]);
                Check.equal("the interest", x.number(1), has[1] - paid[1]);
                Check.equal("the principal", x.number(0), has[2] - paid[2]);
            }
        }
    }

    private static void promise9Adjusting() {
        LoanServicing x = freeLoan(1000, 10);
        x.pay(250);
        Check.equal("mode 0 keeps the installment", x.number(4), 100);
        Check.equal("mode 0 lowers the number", x.number(5), 8);
        x.set(1, 1);
        x.pay(30);
        Check.equal("mode 1 keeps the number", x.number(5), 8);
        Check.equal("mode 1 lowers the installment", x.number(4), 90);
        x.pass(31);
        x.pay(90);
        Check.equal("no prepayment, not adjusted", x.number(4), 90);
        x.set(1, 0);
        x.pay(1);
        Check.equal("mode 0: at most as many as remain", x.number(5), 7);

        LoanServicing exact = freeLoan(59, 60);
        exact.pass(31);
        exact.pay(1);
        Check.equal("no prepayment: 59 remain, though 58 would do", exact.number(5), 59);
        exact.pay(1);
        Check.equal("a prepayment: one less", exact.number(5), 57);
        exact.pay(56);
        Check.equal("all but a cent", exact.number(5), 1);

        LoanServicing grown = freeLoan(1000, 10);
        grown.pass(59);
        grown.pay(200);
        grown.pass(1);
        grown.setRate(2000);
        grown.pass(30);
        int more = grown.number(5);
        grown.pay(grown.number(7) + 1);
        Check.yes("a prepayment never adds installments", grown.number(5) <= more);

        LoanServicing y = freeLoan(1000, 1);
        y.pass(31);
        y.pass(11);
        Check.equal("the debt with the fee", y.number(3), 1500);
        Check.equal("a prepayment when none remain", y.pay(1100), 400);
        Check.equal("the condition then", y.condition(), 3);
        Check.equal("all bills are paid, also by what pays fees", y.number(8), 0);
        Check.equal("the principal that is left", y.number(0), 400);
    }

    /** Principal and interest are paid, a fee is not: one installment of 0 remains to be billed. */
    private static void promise9FeesAlone() {
        LoanServicing x = freeLoan(300, 3);
        x.set(0, 3);
        x.pass(42);
        Check.equal("the fee is left", x.pay(300), 500);
        Check.equal("one payment of 0 is projected", x.number(5), 1);
        Check.equal("its amount", x.schedule(0, 1), 0);
        Check.equal("the condition", x.condition(), 1);
        int entries = x.ledgerSize();
        Check.equal("a bill of 0 is made", x.pass(17), 1);
        Check.equal("it has no entry", x.ledgerSize(), entries);
        Check.equal("it is fully paid", x.number(8), 0);
        Check.equal("none remain", x.condition(), 3);
        Check.equal("it is never late", x.pass(100), 0);
        Check.equal("waiving the fee", x.waive(500), 0);
        Check.equal("settles", x.condition(), 4);
    }

    private static void promise10() {
        LoanServicing x = freeLoan(300, 3);
        x.pass(42);
        Check.equal("waive returns the fees that remain", x.waive(200), 300);
        Check.equal("the bills stay", x.number(7), 100);
        Check.equal("the sum", x.total(6), 200);
        Check.equal("no payment", x.total(0), 0);
        Check.equal("the number stays", x.number(5), 2);
        Check.refuses(x, STATE, "waiving more than the fees", () -> x.waive(301));
        Check.refuses(x, ARGUMENT, "waive(0)", () -> x.waive(0));
        Check.refuses(x, ARGUMENT, "waive(-1)", () -> x.waive(-1));
        Check.equal("waive all", x.waive(300), 0);
        Check.refuses(x, STATE, "waive(1) without fees", () -> x.waive(1));
        LoanServicing none = new LoanServicing();
        Check.refuses(none, STATE, "waive without a loan", () -> none.waive(1));
        Check.refuses(none, ARGUMENT, "waive(0) without a loan", () -> none.waive(0));

        LoanServicing y = freeLoan(300, 1);
        y.set(0, 5);
        y.pass(42);
        y.pay(300);
        y.pass(1);
        Check.equal("only the fee is left", y.condition(), 3);
        y.waive(500);
        Check.equal("a waiver can settle", y.condition(), 4);

        LoanServicing z = percentLoan();
        z.set(0, 3);
        z.pass(44);
        z.pay(z.number(3) - 500);
        Check.equal("an installment remains", z.number(5), 1);
        Check.yes("a part of a cent is left", z.accruedUnits() != 0);
        z.waive(499);
        Check.equal("it still remains", z.number(5), 1);
        z.waive(1);
        Check.equal("none remain after the waiver of all", z.number(5), 0);
        Check.equal("nor units", z.accruedUnits(), 0);
        Check.equal("settled", z.condition(), 4);
        Check.equal("nothing is billed", z.pass(60), 0);

        LoanServicing w = freeLoan(100, 2);
        w.set(0, 5);
        w.pass(70);
        Check.equal("two late bills would have two fees", w.number(2), 1000);
        w.pay(100);
        Check.equal("bills are left", w.number(7), 50);
        w.waive(1000);
        Check.equal("all bills are fully paid", w.number(7), 0);
        Check.equal("settled by the waiver", w.condition(), 4);
    }

    private static void promise11() {
        LoanServicing x = freeLoan(1000, 10);
        x.pass(42);
        String before = Looks.at(x);
        int[] due = {500, 0, 150, 650 - 100, 9, 100};
        for (int what = 0; what <= 5; what++) {
            Check.equal("explain(650, " + what + ")", x.explain(650, what), due[what]);
        }
        Check.equal("no prepayment", x.explain(100, 3), 0);
        Check.equal("not adjusted", x.explain(100, 4), 9);
        x.set(1, 1);
        Check.equal("the installment of mode 1", x.explain(650, 5), 95);
        Check.equal("the number of mode 1", x.explain(650, 4), 9);
        x.pay(600);
        Check.equal("the fees after another payment", x.explain(50, 0), 0);
        Check.equal("the principal after another payment", x.explain(50, 2), 50);
        x.undo();
        LoanServicing y = percentLoan();
        y.pass(31);
        y.pay(600);
        Check.equal("the interest after another payment", y.explain(5000, 1), 400);
        Check.equal("none remain when it settles", x.explain(1500, 4), 0);
        Check.equal("the prepayment when it settles", x.explain(1500, 3), 1400);
        Check.equal("the installment when it settles", x.explain(1500, 5), 100);
        Check.same("explain changes nothing", Looks.at(x), before);
        Check.equal("and is no command", x.undo(), 2);
        Check.refuses(x, ARGUMENT, "explain(0, 0)", () -> x.explain(0, 0));
        Check.refuses(x, ARGUMENT, "explain(1, -1)", () -> x.explain(1, -1));
        Check.refuses(x, ARGUMENT, "explain(1, 6)", () -> x.explain(1, 6));
        Check.refuses(x, ARGUMENT, "explain(9999, 6)", () -> x.explain(9999, 6));
        Check.refuses(x, UNSUPPORTED, "explain(1501, 0)", () -> x.explain(1501, 0));
        LoanServicing none = new LoanServicing();
        Check.refuses(none, STATE, "explain without a loan", () -> none.explain(1, 0));
        Check.refuses(none, ARGUMENT, "explain(1, 6) without a loan", () -> none.explain(1, 6));
        Check.refuses(none, ARGUMENT, "explain(0, 0) without a loan", () -> none.explain(0, 0));
        x.pay(1500);
        Check.refuses(x, STATE, "explain when settled", () -> x.explain(1, 0));
    }
}

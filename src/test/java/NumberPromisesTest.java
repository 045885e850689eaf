/** Promises 12 to 20: number, accruedUnits, total, condition, the shares, and the projected schedule. */
final class NumberPromisesTest {
    private static final Class<IllegalArgumentException> ARGUMENT = IllegalArgumentException.class;
    private static final Class<IllegalStateException> STATE = IllegalStateException.class;
    private static final Class<IndexOutOfBoundsException> INDEX = IndexOutOfBoundsException.class;

    public static void main(String[] args) {
        promise12();
        promise13();
        promise14();
        promise15();
        promise16();
        promise17();
        promise18();
        promise19();
        promise19Holidays();
        promise20();
        Check.finish("NumberPromisesTest");
    }

    private static LoanServicing percentLoan() {
        LoanServicing x = new LoanServicing();
        x.begin(100000, 1200, 3, 2);
        return x;
    }

    private static void numbers(LoanServicing x, String when, int... due) {
        for (int what = 0; what <= 9; what++) {
            Check.equal("number " + what + " " + when, x.number(what), due[what]);
        }
    }

    private static void promise12() {
        LoanServicing x = new LoanServicing();
        x.pass(30);
        numbers(x, "without a loan", 0, 0, 0, 0, 0, 0, -1, 0, 0, 0);
        x.begin(1000, 0, 3, 0);
        numbers(x, "on January 31", 1000, 0, 0, 1000, 334, 3, 58, 0, 0, 0);
        x.pass(28);
        numbers(x, "on February 28", 1000, 0, 0, 1000, 334, 2, 89, 334, 1, 0);
        x.setHoliday(0, true);
        Check.equal("the next due day is told though it is a holiday", x.number(6), 89);
        x.pass(11);
        numbers(x, "when late", 1000, 0, 500, 1500, 334, 3, 89, 334, 1, 0);
        x.pass(20);
        Check.equal("the due day of April is its last day", x.number(6), 119);
        x.pass(30);
        Check.equal("two bills", x.number(8), 2);
        x.pay(400);
        Check.equal("one of them is left", x.number(8), 1);
        Check.equal("what of it is left", x.number(7), 268);
        x.undo();
        Check.equal("and again", x.number(7), 668);

        LoanServicing last = new LoanServicing();
        last.begin(500, 0, 1, 0);
        numbers(last, "with one installment", 500, 0, 0, 500, 500, 1, 31, 0, 0, 0);
        last.pay(499);
        numbers(last, "with one cent", 1, 0, 0, 1, 500, 1, 31, 0, 0, 0);
        last.pass(31);
        numbers(last, "with one cent billed", 1, 0, 0, 1, 500, 0, -1, 1, 1, 0);
        Check.equal("a cent is debt", last.condition(), 3);

        LoanServicing y = percentLoan();
        y.pass(10);
        numbers(y, "after ten days", 100000, 0, 0, 100333, 34003, 3, 31, 0, 0, 1200);
        Check.refuses(y, ARGUMENT, "number(-1)", () -> y.number(-1));
        Check.refuses(y, ARGUMENT, "number(10)", () -> y.number(10));
    }

    private static void promise13() {
        LoanServicing x = percentLoan();
        Check.equal("no units on the first day", x.accruedUnits(), 0);
        x.pass(29);
        Check.equal("29 counted days", x.accruedUnits(), 100000L * 1200 * 29);
        x.pass(1);
        Check.equal("the number 31 is taken as 30", x.accruedUnits(), 100000L * 1200 * 29);
        x.pass(3);
        Check.equal("two days after the posting", x.accruedUnits(), 100000L * 1200 * 2);
        x.pay(1);
        Check.equal("posted upwards, so negative", x.accruedUnits(), 240000000L - 67 * 3600000L);
        LoanServicing y = new LoanServicing();
        y.begin(10000000, 2000, 60, 1);
        y.pass(27);
        Check.equal("more than an int holds", y.accruedUnits(), 540000000000L);
        y.pay(1);
        y.pass(1);
        y.undo();
        y.undo();
        Check.equal("undone", y.accruedUnits(), 540000000000L);
    }

    private static void totals(LoanServicing x, String when, int... due) {
        for (int what = 0; what <= 7; what++) {
            Check.equal("total " + what + " " + when, x.total(what), due[what]);
        }
    }

    private static void promise14() {
        LoanServicing x = percentLoan();
        x.set(4, 1);
        x.setHoliday(0, true);
        x.pass(31);
        totals(x, "after a holiday", 0, 0, 0, 0, 1000, 0, 0, 1000);
        x.pass(28);
        x.pass(11);
        totals(x, "after a late bill", 0, 0, 0, 0, 2010, 500, 0, 1000);
        x.waive(120);
        x.pay(2000);
        totals(x, "after a payment", 2000, 380, 1010 + 370, 240, 2380, 500, 120, 1000);
        x.begin(5, 0, 1, 0);
        totals(x, "of the next loan", 0, 0, 0, 0, 0, 0, 0, 0);
        x.undo();
        totals(x, "of the first loan again", 2000, 380, 1380, 240, 2380, 500, 120, 1000);
        Check.refuses(x, ARGUMENT, "total(-1)", () -> x.total(-1));
        Check.refuses(x, ARGUMENT, "total(8)", () -> x.total(8));
    }

    private static void promise15() {
        LoanServicing x = new LoanServicing();
        Check.equal("no loan", x.condition(), 0);
        x.begin(100, 0, 2, 0);
        Check.equal("installments remain", x.condition(), 1);
        x.pass(42);
        Check.equal("a late bill, and installments remain", x.condition(), 2);
        x.pass(17);
        Check.equal("a late bill, and none remain", x.condition(), 2);
        x.pay(50);
        Check.equal("the late one is paid", x.condition(), 3);
        x.pass(11);
        Check.equal("the other is late", x.condition(), 2);
        x.pay(99);
        Check.equal("the other has the whole principal", x.condition(), 2);
        x.pay(1);
        Check.equal("fees were paid first, but the bills are paid", x.condition(), 3);
        x.pay(x.number(3));
        Check.equal("settled", x.condition(), 4);
        x.undo();
        Check.equal("undone", x.condition(), 3);
    }

    private static void promise16() {
        LoanServicing x = percentLoan();
        Check.refuses(x, ArithmeticException.class, "interestShare before a payment", x::interestShare);
        Check.refuses(new LoanServicing(), ArithmeticException.class, "interestShare without a loan",
                () -> new LoanServicing().interestShare());
        x.pass(31);
        x.pay(3000);
        Check.equal("a third", x.interestShare(), 1000.0 / 3000.0);
        x.set(0, 4);
        x.pay(4000);
        Check.equal("a seventh", x.interestShare(), 1000.0 / 7000.0);
        x.undo();
        x.undo();
        x.undo();
        Check.throwsOnly(ArithmeticException.class, "interestShare after undo", x::interestShare);
        x.pay(1);
        Check.equal("one cent, of the interest", x.interestShare(), 1);
    }

    private static void promise17() {
        LoanServicing x = percentLoan();
        Check.equal("no progress", x.progress(), 0f);
        Check.refuses(new LoanServicing(), STATE, "progress without a loan", () -> new LoanServicing().progress());
        x.set(4, 1);
        x.setHoliday(0, true);
        x.pass(31);
        x.pay(700);
        Check.equal("of the principal and what was added", x.progress(), 700f / 101000f);
        x.pay(x.number(3));
        Check.equal("all", x.progress(), 1f);
        LoanServicing one = new LoanServicing();
        one.begin(1, 0, 1, 0);
        Check.equal("no progress with one cent", one.progress(), 0f);
        LoanServicing y = new LoanServicing();
        y.begin(9999999, 0, 3, 0);
        y.pay(3333334);
        Check.equal("in floats", y.progress(), (float) 3333334 / (float) 9999999);
        Check.yes("not in doubles", y.progress() != 3333334.0 / 9999999.0);
    }

    private static void promise18() {
        LoanServicing x = new LoanServicing();
        Check.equal("without a loan", x.scheduleLength(), 0);
        x.begin(1000, 0, 10, 0);
        Check.equal("all of them", x.scheduleLength(), 10);
        x.setHoliday(3, true);
        Check.equal("a holiday has no payment", x.scheduleLength(), 10);
        x.pass(31);
        Check.equal("what is billed and not paid is projected once more", x.scheduleLength(), 9);
        x.pass(999);
        Check.equal("none remain", x.scheduleLength(), 0);
        x.begin(1, 0, 60, 0);
        Check.equal("one cent", x.scheduleLength(), 1);
        x.begin(10000, 0, 10, 2);
        x.setRate(2000);
        Check.equal("the eleventh does not reach for the interest, too", x.scheduleLength(), 12);
        Check.equal("what the twelfth pays", x.schedule(11, 1), 30);
        x.begin(59, 0, 60, 0);
        Check.equal("59 cents", x.scheduleLength(), 59);
        x.begin(10000000, 2000, 60, 0);
        Check.equal("60", x.scheduleLength(), 60);
        x.pay(x.number(3));
        Check.equal("settled", x.scheduleLength(), 0);
    }

    private static void row(LoanServicing x, int index, int... due) {
        for (int what = 0; what <= 4; what++) {
            Check.equal("schedule(" + index + ", " + what + ")", x.schedule(index, what), due[what]);
        }
    }

    private static void promise19() {
        LoanServicing x = percentLoan();
        row(x, 0, 31, 34003, 1000, 33003, 66997);
        row(x, 1, 59, 34003, 670, 33333, 33664);
        row(x, 2, 90, 34001, 337, 33664, 0);
        x.pass(31);
        row(x, 0, 59, 34003, 2000, 32003, 67997);
        row(x, 1, 90, 68677, 680, 67997, 0);
        x.pass(30);
        x.pay(1000);
        row(x, 0, 90, 102500, 2500, 100000, 0);
        Check.refuses(x, INDEX, "schedule(-1, 0)", () -> x.schedule(-1, 0));
        Check.refuses(x, INDEX, "schedule(1, 0)", () -> x.schedule(1, 0));
        Check.refuses(x, INDEX, "schedule(1, 9)", () -> x.schedule(1, 9));
        Check.refuses(x, ARGUMENT, "schedule(0, -1)", () -> x.schedule(0, -1));
        Check.refuses(x, ARGUMENT, "schedule(0, 5)", () -> x.schedule(0, 5));
        LoanServicing none = new LoanServicing();
        Check.refuses(none, INDEX, "schedule without a loan", () -> none.schedule(0, 0));

        LoanServicing units = percentLoan();
        units.pass(10);
        row(units, 0, 31, 34003, 1000, 33003, 66997);
        units.pay(1000);
        row(units, 0, 31, 34003, 663, 34003 - 663, 99333 + 663 - 34003);

        LoanServicing low = new LoanServicing();
        low.begin(100000, 0, 60, 2);
        low.setHoliday(0, true);
        low.setHoliday(1, true);
        low.setRate(2000);
        row(low, 0, 90, 1667, 1667, 0, 100000 + 5000 - 1667);
        row(low, 1, 120, 1667, 1667, 0, 100000 + 6667 - 2 * 1667);

        LoanServicing late = new LoanServicing();
        for (int i = 0; i < 8; i++) {
            late.pass(1000);
        }
        late.begin(600, 0, 60, 2);
        Check.equal("a schedule goes beyond the last day", late.schedule(59, 0), 8000 + 5 * 365);
    }

    private static void promise19Holidays() {
        LoanServicing x = percentLoan();
        x.setHoliday(0, true);
        x.setHoliday(2, true);
        row(x, 0, 59, 34003, 2000, 32003, 67997);
        Check.equal("the next is after the other holiday", x.schedule(1, 0), 120);
        Check.equal("with the interest of two months", x.schedule(1, 2), 1360);
        x.set(4, 1);
        row(x, 0, 59, 34003, 1010, 32993, 68007);
        Check.equal("with the interest on what was added", x.schedule(1, 2), 687);
        Check.equal("the principal with what was added", x.schedule(1, 3), 34003 - 687);
    }

    private static void promise20() {
        LoanServicing x = percentLoan();
        Check.equal("as it is", x.installmentFor(3), 34003);
        Check.equal("at once", x.installmentFor(1), 101000);
        Check.equal("two", x.installmentFor(2), 50751);
        Check.equal("nothing has changed", x.number(4), 34003);
        Check.equal("nor the number", x.number(5), 3);
        x.pass(10);
        Check.equal("with the units that have accrued", x.installmentFor(1), 101000);
        x.pass(21);
        Check.equal("after the first bill", x.installmentFor(1), 102000);
        x.undo();
        x.pay(50000);
        x.set(1, 1);
        Check.equal("from the present state", x.installmentFor(1), 50333 + 336);
        int six = x.installmentFor(60);
        Check.yes("for more than remain", six > 50000 / 60 && six < 2000);
        Check.equal("its undo count stays", x.undo(), 3);
        Check.refuses(x, ARGUMENT, "installmentFor(0)", () -> x.installmentFor(0));
        Check.refuses(x, ARGUMENT, "installmentFor(61)", () -> x.installmentFor(61));
        LoanServicing none = new LoanServicing();
        Check.refuses(none, STATE, "installmentFor without a loan", () -> none.installmentFor(1));
        Check.refuses(none, ARGUMENT, "installmentFor(61) without a loan", () -> none.installmentFor(61));
        x.pass(300);
        Check.refuses(x, STATE, "installmentFor when none remain", () -> x.installmentFor(2));
        LoanServicing last = new LoanServicing();
        last.begin(500, 0, 1, 0);
        Check.equal("installmentFor when one remains", last.installmentFor(5), 100);
    }
}

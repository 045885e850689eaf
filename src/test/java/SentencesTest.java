import java.util.NoSuchElementException;

/** Sentences of the document in the cases where a reading close beside the words would answer otherwise. */
final class SentencesTest {
    private static final int MONTHS_OF_HOLIDAYS = 24;
    private static final int EXACT_AS_FLOAT = 1 << 24;

    public static void main(String[] args) {
        waiverAdjustsNothing();
        setAdjustsNothing();
        allUnpaidInterestIsAdded();
        feesDoNotMatterToTheProjection();
        lateOnAHoliday();
        lateWhenNoneRemain();
        sumsSinceTheLoanBegan();
        whatStaysOfASettledLoan();
        moreInstallmentsThanRemain();
        principalThatHasChangedAccrues();
        amountsThatAFloatDoesNotHold();
        progressThatAFloatDoesNotHold();
        beginLeavesWhatIsNotOfTheLoan();
        restoreLeavesWhatIsNotOfTheLoan();
        undoLeavesWhatIsNotOfTheLoan();
        Check.finish("SentencesTest");
    }

    /** One percent a month: with the convention 2 and the rate 1200 a month is 30 counted days. */
    private static LoanServicing percentLoan() {
        LoanServicing x = new LoanServicing();
        x.begin(100000, 1200, 3, 2);
        return x;
    }

    private static LoanServicing freeLoan(int principal, int installments) {
        LoanServicing x = new LoanServicing();
        x.begin(principal, 0, installments, 0);
        return x;
    }

    private static void type(LoanServicing x, String text) {
        for (char c : text.toCharArray()) {
            x.append(c);
        }
    }

    private static void terms(String when, LoanServicing x, int installment, int remaining) {
        Check.equal("the installment " + when, x.number(4), installment);
        Check.equal("the number of installments " + when, x.number(5), remaining);
    }

    /** "A waiver decreases the fees." */
    private static void waiverAdjustsNothing() {
        LoanServicing x = freeLoan(300, 3);
        x.set(1, 1);
        x.pass(42);
        terms("before a waiver", x, 100, 2);
        x.waive(100);
        terms("after a waiver in mode 1", x, 100, 2);
        x.waive(400);
        terms("after a waiver of all fees in mode 1", x, 100, 2);
        x.setRate(0);
        terms("when it is adjusted", x, 150, 2);
        LoanServicing y = freeLoan(59, 60);
        y.set(0, 5);
        y.set(2, 0);
        y.pass(32);
        y.pay(1);
        terms("when 58 would do", y, 1, 59);
        y.waive(1);
        terms("after a waiver in mode 0", y, 1, 59);
    }

    /** "Sets a rule, from now on.": the loan is not adjusted by it, also not by a mode or by capitalizing. */
    private static void setAdjustsNothing() {
        int[] values = {5, 0, 30, 100000, 1};
        for (int mode = 0; mode <= 1; mode++) {
            for (int rule = 0; rule < values.length; rule++) {
                LoanServicing x = freeLoan(300, 3);
                x.set(1, mode);
                x.pass(31);
                x.set(rule, rule == 1 ? 1 - mode : values[rule]);
                terms("after the rule " + rule + " in mode " + mode, x, 100, 2);
            }
        }
        LoanServicing y = percentLoan();
        y.set(1, 1);
        y.setHoliday(0, true);
        terms("with a holiday", y, 34339, 3);
        y.set(4, 1);
        terms("with capitalizing that is set after it", y, 34339, 3);
        Check.equal("the projection goes by it at once", y.schedule(0, 2), 1010);
    }

    /** "with capitalizing the interest is added to the principal and becomes 0": all that is not paid of it. */
    private static void allUnpaidInterestIsAdded() {
        LoanServicing x = percentLoan();
        x.pass(31);
        x.set(4, 1);
        x.setHoliday(0, true);
        Check.equal("the projection adds the interest of both months", x.schedule(0, 2), 1020);
        Check.equal("on the due day after the holiday", x.schedule(0, 0), 90);
        x.pass(28);
        Check.equal("the interest of both months is added", x.number(0), 102000);
        Check.equal("and becomes 0", x.number(1), 0);
        Check.equal("what was added", x.total(7), 2000);
        int last = x.ledgerSize() - 1;
        Check.equal("the posting before it", x.ledger(last - 1, 2), 1000);
        Check.equal("the kind of its entry", x.ledger(last, 0), 6);
        Check.equal("the day of its entry", x.ledger(last, 1), 59);
        Check.equal("the amount of its entry", x.ledger(last, 2), 2000);
    }

    /** "Fees do not matter." */
    private static void feesDoNotMatterToTheProjection() {
        LoanServicing none = percentLoan();
        none.set(3, 0);
        LoanServicing most = percentLoan();
        most.set(3, 100000);
        none.pass(42);
        most.pass(42);
        Check.equal("one has no fees", none.number(2), 0);
        Check.equal("the other has", most.number(2), 100000);
        Check.equal("the payments", most.scheduleLength(), none.scheduleLength());
        for (int i = 0; i < none.scheduleLength(); i++) {
            for (int what = 0; what <= 4; what++) {
                Check.equal("schedule(" + i + ", " + what + ") with fees", most.schedule(i, what), none.schedule(i, what));
            }
        }
        Check.equal("installmentFor(2) with fees", most.installmentFor(2), none.installmentFor(2));
        most.set(1, 1);
        none.set(1, 1);
        most.setRate(700);
        none.setRate(700);
        Check.equal("the installment with fees", most.number(4), none.number(4));
    }

    /** "first bills become late ... and then a due day takes place", a holiday, too */
    private static void lateOnAHoliday() {
        LoanServicing x = percentLoan();
        x.set(2, 27);
        x.set(4, 1);
        x.pass(31);
        x.setHoliday(0, true);
        Check.equal("the eve of the holiday", x.pass(27), 0);
        Check.equal("a bill becomes late on a holiday", x.pass(1), 1);
        int[] kinds = {1, 2, 3, 1, 6};
        Check.equal("the entries", x.ledgerSize(), kinds.length);
        for (int i = 0; i < kinds.length; i++) {
            Check.equal("the kind of the entry " + i, x.ledger(i, 0), kinds[i]);
        }
        Check.equal("the fee is not added to the principal", x.number(0), 102000);
    }

    /** "Whether a bill becomes late is looked at on each day that passes": also when no installments remain */
    private static void lateWhenNoneRemain() {
        LoanServicing x = freeLoan(100, 1);
        x.pass(31);
        Check.equal("none remain", x.number(5), 0);
        Check.equal("before it is late", x.condition(), 3);
        Check.equal("it becomes late", x.pass(11), 1);
        Check.equal("a fee", x.number(2), 500);
        Check.equal("2 is returned", x.condition(), 2);
    }

    /** "Returns a sum since the loan began." */
    private static void sumsSinceTheLoanBegan() {
        LoanServicing x = percentLoan();
        x.set(4, 1);
        x.setHoliday(0, true);
        x.setHoliday(1, true);
        x.pass(59);
        Check.equal("the interest of two holidays", x.total(7), 1000 + 1010);
        Check.equal("the interest that was posted", x.total(4), 1000 + 1010);
        x.pass(31 + 30 + 11);
        Check.equal("two late fees", x.total(5), 2 * 500);
        x.waive(30);
        x.waive(4);
        Check.equal("two waivers", x.total(6), 34);
        x.pay(100);
        x.pay(20);
        Check.equal("two payments", x.total(0), 120);
        Check.equal("what they paid of the fees", x.total(1), 120);
        x.set(0, 3);
        int interest = x.number(1);
        x.pay(interest - 5);
        x.pay(5 + 7);
        x.pay(1);
        Check.equal("what they paid of the interest", x.total(2), interest);
        Check.equal("what they paid of the principal", x.total(3), 8);
        Check.equal("all of them", x.total(0), 120 + interest + 8);
        Check.equal("the fees that are left", x.number(2), 1000 - 34 - 120);
    }

    /** "there are no remaining installments, all bills are fully paid, and the accrued units are 0" */
    private static void whatStaysOfASettledLoan() {
        LoanServicing x = percentLoan();
        x.pass(44);
        int debt = x.number(3);
        x.pay(debt);
        int[] due = {0, 0, 0, 0, 34003, 0, -1, 0, 0, 1200};
        for (int round = 0; round < 2; round++) {
            for (int what = 0; what <= 9; what++) {
                Check.equal("number " + what + " of a settled loan", x.number(what), due[what]);
            }
            Check.equal("its units", x.accruedUnits(), 0);
            Check.equal("its condition", x.condition(), 4);
            Check.equal("its payments", x.total(0), debt);
            Check.equal("its schedule", x.scheduleLength(), 0);
            Check.equal("nothing happens on its days", x.pass(500), 0);
        }
        Check.equal("its progress", x.progress(), 1f);
    }

    /** "Returns the least installment of mode 1 for a number of installments": it may be more than remain */
    private static void moreInstallmentsThanRemain() {
        LoanServicing x = freeLoan(300, 3);
        x.pass(31);
        Check.equal("two remain", x.number(5), 2);
        int[][] due = {{1, 300}, {2, 150}, {3, 100}, {4, 75}, {7, 43}, {59, 6}, {60, 5}};
        for (int[] d : due) {
            Check.equal("installmentFor(" + d[0] + ")", x.installmentFor(d[0]), d[1]);
        }
        x.setHoliday(0, true);
        Check.equal("with a holiday, that is none of them", x.installmentFor(4), 75);
        LoanServicing y = percentLoan();
        y.pass(31);
        Check.equal("two remain of the loan with interest", y.number(5), 2);
        Check.equal("all three, from the interest of a month on", y.installmentFor(3), 34339);
    }

    /** "without a change of principal or rate between" */
    private static void principalThatHasChangedAccrues() {
        LoanServicing x = percentLoan();
        x.pass(3);
        x.pay(40100);
        Check.equal("a cent in a thousand for three days is posted", x.number(0), 60000);
        x.pass(5);
        Check.equal("five days of what is left", x.accruedUnits(), 60000L * 1200 * 5);
        x.setRate(600);
        x.pass(2);
        Check.equal("two days at the new rate", x.accruedUnits(), 60000L * 1200 * 5 + 60000L * 600 * 2);
    }

    /** A loan of which the interest of six years was added to the principal. */
    private static LoanServicing grownLoan(int principal) {
        LoanServicing x = new LoanServicing();
        x.begin(principal, 2000, 60, 2);
        x.set(4, 1);
        for (int round = 0; round < 3; round++) {
            for (int after = 0; after < MONTHS_OF_HOLIDAYS; after++) {
                x.setHoliday(after, true);
            }
            x.pass(730);
        }
        Check.yes("the principal is more than a float holds", x.number(0) > EXACT_AS_FLOAT);
        return x;
    }

    /** "the amounts converted to float, divided by 100" */
    private static void amountsThatAFloatDoesNotHold() {
        LoanServicing x = grownLoan(9999997);
        int length = x.storeSchedule(1, false);
        int different = 0;
        for (int i = 0; i < length; i++) {
            int left = x.schedule(i, 4);
            Check.equal("the float " + i, x.stored(1, i), (float) left / 100f);
            different += (float) left / 100f != (float) (left / 100.0) ? 1 : 0;
        }
        Check.yes("it matters that the amounts are converted first", different > 0);
        x.storeSchedule(0, true);
        Check.equal("a double holds it", x.stored(0, 0), x.schedule(0, 4));
    }

    /** "divided by the principal at the beginning plus all interest that was added to it, both converted to float" */
    private static void progressThatAFloatDoesNotHold() {
        int principal = 9999997;
        LoanServicing x = grownLoan(principal);
        int whole = principal + x.total(7);
        Check.yes("it matters that the sum is converted", (float) whole != (float) principal + (float) x.total(7));
        x.set(0, 5);
        int different = 0;
        int differentFromParts = 0;
        for (int paid = EXACT_AS_FLOAT + 1; paid < EXACT_AS_FLOAT + 42; paid += 2) {
            x.pay(paid - x.total(3));
            Check.equal("what was paid of the principal", x.total(3), paid);
            Check.equal("the progress", x.progress(), (float) paid / (float) whole);
            different += (float) paid / (float) whole != (float) ((double) paid / whole) ? 1 : 0;
            float ofParts = (float) paid / ((float) principal + (float) x.total(7));
            differentFromParts += (float) paid / (float) whole != ofParts ? 1 : 0;
        }
        Check.yes("it matters that both are converted first", different > 0);
        Check.yes("it matters that the sum is made first", differentFromParts > 0);
        Check.yes("confirmed", x.isConfirmed());
    }

    private static LoanServicing withAllThatIsNotOfTheLoan() {
        LoanServicing x = freeLoan(1000, 4);
        x.storeSchedule(0, true);
        x.storeSchedule(1, false);
        type(x, "d1;p");
        Check.throwsOnly(IllegalArgumentException.class, "a malformed text", x::execute);
        type(x, "d1;w5");
        Check.throwsOnly(UnsupportedOperationException.class, "a refused text", x::execute);
        x.pass(3);
        x.snapshot();
        x.pass(4);
        type(x, "d1;");
        return x;
    }

    private static void allThatIsNotOfTheLoan(String when, LoanServicing x) {
        Check.equal("the error position " + when, x.errorPosition(), 4);
        Check.equal("the refused command " + when, x.refusedCommand(false), 1);
        Check.equal("its reason " + when, x.refusedCommand(true), 2);
        Check.equal("the first row " + when, x.stored(0, 0), 750);
        Check.equal("the second row " + when, x.stored(1, 1), 5);
        Check.throwsOnly(NoSuchElementException.class, "its end " + when, () -> x.stored(1, 4));
        Check.equal("the buffer " + when, x.append('d'), 4);
        x.append('2');
        Check.equal("what is typed on " + when, x.execute(), 2);
        Check.equal("the snapshot " + when, x.restore(), 3);
    }

    /** "Begins a loan on the present day, in place of an earlier one": of what stands beside the loan, all stays. */
    private static void beginLeavesWhatIsNotOfTheLoan() {
        LoanServicing x = withAllThatIsNotOfTheLoan();
        x.begin(77, 0, 7, 0);
        Check.equal("the commands before begin can be undone", x.undo(), 3);
        Check.equal("the loan before it", x.number(0), 1000);
        x.begin(77, 0, 7, 0);
        Check.equal("the day stays", x.date(0), 7);
        allThatIsNotOfTheLoan("after begin", x);
    }

    /** "Restores all that from the snapshot": the loan, the day, the rules, the ledger and the commands alone */
    private static void restoreLeavesWhatIsNotOfTheLoan() {
        LoanServicing x = withAllThatIsNotOfTheLoan();
        Check.equal("restore", x.restore(), 3);
        allThatIsNotOfTheLoan("after restore", x);
    }

    /** "everything but the input buffer, the error position, the refused command, the rows and the snapshot" */
    private static void undoLeavesWhatIsNotOfTheLoan() {
        LoanServicing x = withAllThatIsNotOfTheLoan();
        Check.equal("undo", x.undo(), 2);
        Check.equal("undo of what came before the snapshot, too", x.undo(), 1);
        Check.equal("undo of begin", x.undo(), 0);
        Check.equal("no loan", x.condition(), 0);
        allThatIsNotOfTheLoan("after undo", x);
        Check.equal("the loan of the snapshot", x.number(0), 1000);
    }
}

/** The sentences of the description that name a boundary, each with the case on either side of it. */
final class BoundaryTest {
    private static final int JANUARY_31 = 30;

    public static void main(String[] args) throws ReflectiveOperationException {
        lastDaysOfMonths();
        lastDayOfTheYear();
        countingOverTheEnds();
        roundingInTheMiddle();
        installmentThatIsAllThereIs();
        lastInstallment();
        leastAndGreatestGrace();
        severalBillsLateAtOnce();
        leastAndGreatestLateFee();
        theLastDay();
        leastAndGreatestPayment();
        prepaymentFromTheFirstCent();
        adjustingAtItsLimits();
        theFarthestHoliday();
        theMostBills();
        Check.finish("BoundaryTest");
    }

    private static LoanServicing after(String... lines) throws ReflectiveOperationException {
        LoanServicing loan = new LoanServicing();
        Calls.run(loan, lines);
        return loan;
    }

    private static void dueDays(String when, LoanServicing loan, int... days) {
        for (int i = 0; i < days.length; i++) {
            Check.equal("the due day " + (i + 1) + " of a loan begun on " + when, loan.schedule(i, 0), days[i]);
        }
        Check.equal("the next due day of a loan begun on " + when, loan.number(6), days[0]);
    }

    /** "or the last day of that month if it does not have this number" */
    private static void lastDaysOfMonths() throws ReflectiveOperationException {
        dueDays("January 31", after("pass 30", "begin 1400 0 14 0"),
                58, 89, 119, 150, 180, 211, 242, 272, 303, 333, 364, 395, 365 + 58, 365 + 89);
        dueDays("January 30", after("pass 29", "begin 1400 0 14 0"),
                58, 88, 119, 149, 180, 210, 241, 272, 302, 333, 363, 394, 365 + 58, 365 + 88);
        dueDays("January 29", after("pass 28", "begin 300 0 3 0"), 58, 87, 118);
        dueDays("January 28", after("pass 27", "begin 300 0 3 0"), 58, 86, 117);
        dueDays("February 28", after("pass 58", "begin 300 0 3 0"), 86, 117, 147);
        dueDays("February 1", after("pass 31", "begin 300 0 3 0"), 59, 90, 120);
        dueDays("March 31", after("pass 89", "begin 300 0 3 0"), 119, 150, 180);

        LoanServicing loan = after("pass " + JANUARY_31, "begin 300 0 3 0");
        Check.equal("the eve of February 28", loan.pass(27), 0);
        Check.equal("February 28", loan.pass(1), 1);
        Check.equal("the eve of March 31", loan.pass(30), 1);
        Check.equal("what became late was the first bill", loan.number(8), 1);
        Check.equal("March 31", loan.pass(1), 1);
        Check.equal("the second bill", loan.number(8), 2);
        LoanServicing days = after();
        int[] last = {31, 28, 31, 30, 31, 30, 31, 31, 30, 31, 30, 31};
        for (int month = 0; month < 24; month++) {
            days.pass(last[month % 12] - (month == 0 ? 1 : 0));
            Check.equal("the last day of month " + month, days.date(3), last[month % 12]);
            Check.equal("its month", days.date(2), month % 12);
            Check.equal("its year", days.date(1), month / 12);
            days.pass(1);
            Check.equal("the day after it", days.date(3), 1);
            Check.equal("the month after it", days.date(2), (month + 1) % 12);
            Check.equal("the year after it", days.date(1), (month + 1) / 12);
            days.undo();
        }
    }

    private static void lastDayOfTheYear() throws ReflectiveOperationException {
        dueDays("December 31", after("pass 364", "begin 300 0 3 0"), 395, 365 + 58, 365 + 89);
        dueDays("December 1", after("pass 334", "begin 300 0 3 0"), 365, 396, 424);
        dueDays("January 1", after("begin 1300 0 13 0"), 31, 59, 90, 120, 151, 181, 212, 243, 273, 304, 334, 365, 396);
        LoanServicing loan = after("pass 364", "begin 300 0 3 0");
        Check.equal("the last day of the year", loan.date(1), 0);
        loan.pass(1);
        Check.equal("the first day of the next", loan.date(1), 1);
        Check.equal("a year later", after("8*pass 1000").date(1), 21);
        LoanServicing last = after("8*pass 1000");
        Check.equal("the month of day 8000", last.date(2), 11);
        Check.equal("its number in the month", last.date(3), 2);
    }

    /** "the difference of the numbers in their months, where a number 31 is taken as 30" */
    private static void countingOverTheEnds() {
        LoanServicing loan = new LoanServicing();
        Check.equal("from December 31 to January 1", loan.countedDays(364, 365, 2), 1);
        Check.equal("from December 30 to December 31", loan.countedDays(363, 364, 2), 0);
        Check.equal("from December 30 to January 1", loan.countedDays(363, 365, 2), 1);
        Check.equal("from January 1 to December 31", loan.countedDays(0, 364, 2), 359);
        Check.equal("from February 28 to March 31", loan.countedDays(58, 89, 2), 32);
        Check.equal("from March 31 to April 30", loan.countedDays(89, 119, 2), 30);
        Check.equal("from day 0 to day 8000", loan.countedDays(0, 8000, 2), 360 * 21 + 30 * 11 + 1);
        Check.equal("from day 7999 to day 8000", loan.countedDays(7999, 8000, 0), 1);
        Check.equal("from day 0 to itself", loan.countedDays(0, 0, 2), 0);
    }

    /** "rounded to the nearest whole number, and upwards in the middle" */
    private static void roundingInTheMiddle() throws ReflectiveOperationException {
        int[][] due = {{49, 0, 49 * 36000}, {50, 1, 50 * 36000 - 3600000}, {51, 1, 51 * 36000 - 3600000},
            {149, 1, 149 * 36000 - 3600000}, {150, 2, 150 * 36000 - 2 * 3600000}, {100, 1, 0}};
        for (int[] d : due) {
            LoanServicing loan = after("begin " + d[0] + " 1200 2 2");
            Check.equal("projected for " + d[0], loan.schedule(0, 2), d[1]);
            Check.equal("the debt tomorrow and now", loan.number(3), d[0]);
            loan.pass(31);
            Check.equal("posted on the due day for " + d[0], loan.number(1), d[1]);
            Check.equal("the units that are left", loan.accruedUnits(), d[2]);
            Check.equal("the sum", loan.total(4), d[1]);
            Check.equal("an entry only if it is not 0", loan.ledger(0, 0), d[1] == 0 ? 2 : 1);
        }
        LoanServicing low = after("begin 50 1200 2 2");
        Check.equal("the installment with the rounded cent", low.number(4), 26);
        Check.equal("the last payment with what was rounded", low.schedule(1, 1), 25);
        LoanServicing halves = after("begin 150 1200 2 2", "pass 10", "pay 1", "setRate 0");
        Check.equal("half a cent below 0 is rounded upwards, to 0", halves.number(3), 150);
        halves.pay(1);
        Check.equal("it stays below 0", halves.accruedUnits(), -1800000);
        LoanServicing more = after("begin 150 1200 2 2", "pass 10", "pay 1", "pass 20");
        Check.equal("the half that is missing is caught up", more.accruedUnits(), 150 * 1200 * 19 - 1800000);
        Check.equal("so that it is less than a half", more.number(3), 150);
    }

    /** "or if the installment is at least the principal plus the interest" */
    private static void installmentThatIsAllThereIs() throws ReflectiveOperationException {
        LoanServicing loan = after("set 3 0", "begin 2 0 60 0");
        Check.equal("two cents, a cent each", loan.number(4), 1);
        Check.equal("60 installments remain", loan.number(5), 60);
        loan.pass(31);
        Check.equal("less than all is billed", loan.number(5), 59);
        loan.pass(28);
        Check.equal("and again, as nothing was paid", loan.number(5), 58);
        loan.pay(1);
        loan.pass(31);
        Check.equal("an installment that is all there is", loan.number(5), 0);
        Check.equal("three bills of a cent, one paid", loan.number(7), 2);
        LoanServicing over = after("begin 3 0 2 0", "pass 31", "pay 2", "pass 28");
        Check.equal("an installment that is more than there is", over.number(7), 1);
        Check.equal("the number becomes 0", over.number(5), 0);
        LoanServicing early = after("set 1 1", "begin 10000 0 60 0", "setHoliday 0 true", "pay 9940");
        Check.equal("the least installment for 60 cents", early.number(4), 1);
    }

    /** "if it becomes 0 ... the bill has the principal plus the interest" */
    private static void lastInstallment() throws ReflectiveOperationException {
        LoanServicing loan = after("begin 100000 1200 2 2", "pass 31");
        Check.equal("the first has the installment", loan.number(7), loan.number(4));
        int first = loan.number(7);
        Check.equal("one remains", loan.number(5), 1);
        loan.pass(28);
        Check.equal("the last has all, though the first is unpaid", loan.number(7), first + 102000);
        Check.equal("none remain", loan.number(5), 0);
        Check.equal("no next due day", loan.number(6), -1);
        Check.equal("nor a schedule", loan.scheduleLength(), 0);
        Check.equal("what happens then is that the last bill becomes late", loan.pass(300), 1);
        LoanServicing holiday = after("begin 1000 0 1 0", "setHoliday 0 true", "pass 31");
        Check.equal("a holiday before the last one", holiday.number(5), 1);
        Check.equal("the last one after it", holiday.pass(28), 1);
        Check.equal("no longer one that remains", holiday.number(5), 0);
    }

    /** "at least as many days as the grace, plus 1, after it was made" */
    private static void leastAndGreatestGrace() throws ReflectiveOperationException {
        for (int grace : new int[] {0, 1, 10, 29, 30}) {
            LoanServicing loan = after("begin 100 0 1 0", "set 2 " + grace, "pass 31");
            if (grace > 0) {
                Check.equal("not late after " + grace + " days", loan.pass(grace), 0);
            }
            Check.equal("the condition then", loan.condition(), 3);
            Check.equal("late a day after a grace of " + grace, loan.pass(1), 1);
            Check.equal("the fee is of this day", loan.ledger(1, 1), 31 + grace + 1);
            Check.equal("the condition when late", loan.condition(), 2);
            Check.equal("late once", loan.pass(900), 0);
        }
        LoanServicing longer = after("begin 100 0 1 0", "set 2 5", "pass 36", "set 2 30");
        Check.equal("the grace of that day", longer.pass(25), 0);
        Check.equal("the day after the greater grace", longer.pass(1), 1);
        LoanServicing stays = after("begin 100 0 1 0", "set 2 5", "pass 37", "set 2 30");
        Check.equal("late it stays with a greater grace", stays.condition(), 2);
        LoanServicing cent = after("begin 100 0 1 0", "pass 31", "pay 99", "pass 11");
        Check.equal("a cent unpaid is late", cent.number(2), 500);
        LoanServicing paid = after("begin 100 0 1 0", "pass 41", "pay 100", "pass 1");
        Check.equal("paid on the last day of grace", paid.number(2), 0);
    }

    /** "first bills become late, the oldest one first, and then a due day takes place" */
    private static void severalBillsLateAtOnce() throws ReflectiveOperationException {
        LoanServicing loan = after("begin 300 0 3 0", "set 2 30", "set 3 7", "pass 59", "set 2 0");
        Check.equal("both become late on the next day", loan.pass(1), 2);
        Check.equal("a fee each", loan.number(2), 14);
        Check.equal("an entry each", loan.ledgerSize(), 4);
        Check.equal("the first fee", loan.ledger(2, 0), 3);
        Check.equal("the second fee", loan.ledger(3, 0), 3);
        LoanServicing due = after("begin 300 0 3 0", "set 2 27", "pass 58");
        Check.equal("late and due on one day", due.pass(1), 2);
        Check.equal("the fee first", due.ledger(1, 0), 3);
        Check.equal("then the bill", due.ledger(2, 0), 2);
        LoanServicing later = after("begin 300 0 3 0", "set 2 28", "pass 59");
        Check.equal("the bill first", later.ledger(1, 0), 2);
        Check.equal("the fee on the next day", later.pass(1), 1);
    }

    /** "A late bill has a fee entry only if the fee is greater than 0, but it is late in any case." */
    private static void leastAndGreatestLateFee() throws ReflectiveOperationException {
        for (int fee : new int[] {0, 1, 100000}) {
            LoanServicing loan = after("begin 100 0 1 0", "set 3 " + fee, "pass 42");
            Check.equal("the fee", loan.number(2), fee);
            Check.equal("the sum of the fees", loan.total(5), fee);
            Check.equal("the entries", loan.ledgerSize(), fee > 0 ? 2 : 1);
            Check.equal("late in any case", loan.condition(), 2);
        }
        LoanServicing loan = after("begin 100 0 1 0", "set 3 100000", "pass 42");
        Check.equal("the greatest fee", loan.ledger(1, 2), 100000);
        Check.equal("all but a cent of it waived", loan.waive(99999), 1);
        Check.equal("the cent", loan.waive(1), 0);
        Check.throwsOnly(IllegalStateException.class, "a cent more", () -> loan.waive(1));
    }

    /** "if the day would be greater than 8000": the due day and the late bill of day 8000 take place. */
    private static void theLastDay() throws ReflectiveOperationException {
        LoanServicing due = after("7*pass 1000", "pass 970", "begin 100 0 1 0");
        Check.throwsOnly(IllegalStateException.class, "to day 8001", () -> due.pass(31));
        Check.equal("refused as a whole", due.date(0), 7970);
        Check.equal("the due day is day 8000", due.number(6), 8000);
        Check.equal("a bill on it", due.pass(30), 1);
        Check.equal("it is day 8000", due.ledger(0, 1), 8000);
        Check.throwsOnly(IllegalStateException.class, "beyond it", () -> due.pass(1));
        Check.throwsOnly(IllegalArgumentException.class, "1001 days", () -> due.pass(1001));
        Check.equal("a payment on it", due.pay(100), 0);
        Check.equal("it settles", due.condition(), 4);
        LoanServicing late = after("7*pass 1000", "pass 958", "begin 100 0 1 0", "pass 41");
        Check.equal("day 7999", late.date(0), 7999);
        Check.equal("late on day 8000", late.pass(1), 1);
        Check.yes("confirmed on day 8000", late.isConfirmed());
        LoanServicing full = after("7*pass 1000");
        Check.equal("1000 days to it", full.pass(1000), 0);
        Check.equal("the last day", full.date(0), 8000);
        Check.equal("a loan begun on it", full.begin(1200, 0, 12, 2), 100);
        Check.equal("its due day comes after it", full.number(6), 8031);
        Check.equal("and is never reached", full.undo(), 7);
    }

    /** "A payment is at most the whole debt after posting." */
    private static void leastAndGreatestPayment() throws ReflectiveOperationException {
        String[] late = {"begin 100000 1200 3 2", "pass 44"};
        int debt = after(late).number(3);
        Check.equal("fees, interest and what will be posted", debt, 100000 + 1000 + 500 + 433);
        LoanServicing all = after(late);
        Check.throwsOnly(UnsupportedOperationException.class, "a cent more", () -> all.pay(debt + 1));
        Check.equal("nothing was posted by it", all.total(4), 1000);
        Check.equal("all of it", all.pay(debt), 0);
        Check.equal("settled", all.condition(), 4);
        Check.equal("nothing is left to round", all.accruedUnits(), 0);
        Check.throwsOnly(IllegalStateException.class, "one cent then", () -> all.pay(1));
        LoanServicing most = after(late);
        Check.equal("all but a cent", most.pay(debt - 1), 1);
        Check.yes("is not settled", most.condition() != 4);
        Check.equal("the cent is of the principal", most.number(0), 1);
        LoanServicing least = after(late);
        Check.equal("one cent", least.pay(1), debt - 1);
        Check.equal("it pays fees", least.total(1), 1);
        Check.equal("and decreases the bill", least.number(7), 34003 - 1);
        LoanServicing rounded = after("begin 150 1200 2 2", "pass 10");
        Check.throwsOnly(UnsupportedOperationException.class, "half a cent is no more than a cent", () -> rounded.pay(152));
        Check.equal("half a cent is a cent", rounded.pay(151), 0);
        LoanServicing below = after("begin 149 1200 2 2", "pass 10");
        Check.throwsOnly(UnsupportedOperationException.class, "less than half a cent is none", () -> below.pay(150));
        Check.equal("all without it", below.pay(149), 0);
    }

    /** "what is left of the payment after that is a prepayment" */
    private static void prepaymentFromTheFirstCent() throws ReflectiveOperationException {
        String[] billed = {"set 1 1", "begin 1000 0 10 0", "pass 31"};
        LoanServicing just = after(billed);
        Check.equal("no prepayment", just.explain(100, 3), 0);
        Check.equal("a cent of prepayment", just.explain(101, 3), 1);
        just.pay(100);
        Check.equal("just the bill adjusts nothing", just.number(4), 100);
        just.pay(1);
        Check.equal("a cent more adjusts", just.number(4), 100);
        just.pay(8);
        Check.equal("to the least installment", just.number(4), 99);
        LoanServicing fees = after("begin 1000 0 10 0", "pass 42");
        Check.equal("what pays fees pays the bill, too", fees.explain(600, 3), 500);
        Check.equal("a prepayment that pays fees alone", fees.explain(500, 3), 400);
        fees.pay(101);
        Check.equal("adjusts though no principal was paid", fees.number(5), 9);
        Check.equal("the fees that are left", fees.number(2), 399);
        Check.equal("the bill is paid", fees.number(8), 0);
    }

    /** "at most as many installments as remain, or at most 60", "the least amount, from 1" */
    private static void adjustingAtItsLimits() throws ReflectiveOperationException {
        LoanServicing least = after("set 1 1", "set 0 3", "begin 300 0 3 0", "pass 42", "pay 300");
        Check.equal("the least installment is 1, with nothing to pay", least.number(4), 1);
        Check.equal("mode 1 keeps the number", least.number(5), 2);
        Check.equal("one payment of 0", least.scheduleLength(), 1);
        Check.equal("its amount", least.schedule(0, 1), 0);
        Check.equal("its bill", least.pass(17), 1);
        Check.equal("the number becomes 0", least.number(5), 0);
        LoanServicing most = after("begin 60000 0 60 0", "pass 59", "setRate 2000");
        Check.equal("at most 60", most.number(5), 60);
        most.pass(31);
        most.setHoliday(0, true);
        Check.equal("60 again with a holiday", most.number(5), 60);
        most.pay(most.number(7) + 1);
        Check.equal("a prepayment adds none", most.number(5), 60);
        LoanServicing fewer = after("begin 60000 0 60 0", "setRate 2000", "pass 31");
        fewer.pay(fewer.number(7) + 1);
        Check.equal("at most as many as remain", fewer.number(5), 59);
        LoanServicing one = after("begin 60000 0 60 0", "pay 59000");
        Check.equal("the last one alone", one.number(5), 1);
        LoanServicing two = after("begin 60000 0 60 0", "pay 58999");
        Check.equal("a cent more than one", two.number(5), 2);
        Check.equal("it is the last payment", two.schedule(1, 1), 1);
    }

    private static void theFarthestHoliday() throws ReflectiveOperationException {
        LoanServicing loan = after("begin 3000 0 30 0", "setHoliday 23 true");
        Check.equal("the 23 before it stay", loan.schedule(22, 0), 365 + 334);
        Check.equal("the payment 24 is on the due day 25", loan.schedule(23, 0), 2 * 365 + 31);
        Check.equal("the number stays", loan.number(5), 30);
        Check.yes("it was none a due day earlier", !loan.setHoliday(22, true));
        LoanServicing all = after("begin 3000 0 60 0");
        for (int i = 0; i < 24; i++) {
            all.setHoliday(i, true);
        }
        Check.equal("after 24 holidays", all.schedule(0, 0), 2 * 365 + 31);
        Check.equal("60 payments after them", all.scheduleLength(), 60);
        Check.equal("the last of them", all.schedule(59, 0), 7 * 365);
        Check.equal("no bill on any of them", all.pass(730), 0);
        Check.equal("but on the next", all.pass(31), 1);
        LoanServicing moved = after("begin 3000 0 60 0", "setHoliday 23 true", "pass 31", "setHoliday 23 true");
        Check.yes("it has come one nearer", moved.setHoliday(22, true));
        Check.yes("and the farthest is another", moved.setHoliday(23, true));
    }

    /** A bill on each due day from day 0 to day 8000: as the rate is set, the number of installments grows again. */
    private static void theMostBills() {
        LoanServicing loan = new LoanServicing();
        loan.begin(10000000, 2000, 60, 0);
        int bills = 0;
        while (loan.date(0) < 8000) {
            bills += loan.pass(Math.min(800, 8000 - loan.date(0)));
            loan.setRate(2000);
        }
        Check.equal("the bills and those that became late, but the last", bills, 263 + 262);
        Check.equal("none is paid", loan.number(8), 263);
        Check.equal("the fees", loan.number(2), 262 * 500);
        Check.yes("confirmed", loan.isConfirmed());
        int unpaid = loan.number(7);
        Check.equal("each has the installment", unpaid, 263 * loan.number(4));
        loan.pay(loan.number(4));
        Check.equal("the oldest is paid", loan.number(8), 262);
    }
}

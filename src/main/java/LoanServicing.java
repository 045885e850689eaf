import java.util.NoSuchElementException;

/** A loan that is serviced day by day. The numbered promises of the document say what each call does. */
public final class LoanServicing {
    private static final int LAST_DAY = 8000;
    private static final int MOST_DAYS = 1000;
    private static final int MOST_PRINCIPAL = 10000000;
    private static final int MOST_RATE = 2000;
    private static final int MOST_INSTALLMENTS = 60;
    private static final int MOST_HOLIDAYS = 24;
    private static final int MOST_UNDO = 8;
    private static final int ROWS = 2;

    private static final int ORDER = 0;
    private static final int MODE = 1;
    private static final int GRACE = 2;
    private static final int LATE_FEE = 3;
    private static final int CAPITALIZING = 4;
    private static final int RULES = 5;

    /* The kinds of commands; the numbers below RULES are the setting of the rule with this number. */
    private static final int PASS = 5;
    private static final int RATE = 6;
    private static final int HOLIDAY = 7;
    private static final int WORKDAY = 8;
    private static final int PAY = 9;
    private static final int WAIVE = 10;

    /* Why a command is refused; the numbers are those that refusedCommand tells. */
    private static final int ACCEPTED = 0;
    private static final int BAD_ARGUMENT = 1;
    private static final int BAD_STATE = 2;
    private static final int TOO_MUCH = 3;

    /* The sums since the loan began, with the numbers that total tells. */
    private static final int PAID = 0;
    private static final int PAID_FEES = 1;
    private static final int PAID_INTEREST = 2;
    private static final int PAID_PRINCIPAL = 3;
    private static final int POSTED = 4;
    private static final int CHARGED_FEES = 5;
    private static final int WAIVED = 6;
    private static final int ADDED = 7;
    private static final int SUMS = 8;

    private final Account now = new Account();
    private final Account trial = new Account();
    private final Account saved = new Account();
    private final Account[] earlier = new Account[MOST_UNDO];
    private final History history = new History();
    private final History savedHistory = new History();
    private final Projection projection = new Projection();
    private final InputText text = new InputText();
    private final Row[] rows = new Row[ROWS];
    /* Where, round the ring of earlier states, the state before the next command goes. */
    private int carriedOut;
    private int undoable;
    private boolean hasSnapshot;
    private int malformedAt = -1;
    private int refusedNumber = -1;
    private int refusedReason;

    public LoanServicing() {
        for (int i = 0; i < earlier.length; i++) {
            earlier[i] = new Account();
        }
        for (int i = 0; i < rows.length; i++) {
            rows[i] = new Row();
        }
    }

    // ---- the loan

    public int begin(int principal, int rate, int installments, int convention) throws IllegalArgumentException {
        if (!isWithin(principal, 1, MOST_PRINCIPAL) || !isWithin(rate, 0, MOST_RATE)
                || !isWithin(installments, 1, MOST_INSTALLMENTS) || !isWithin(convention, 0, 2)) {
            throw new IllegalArgumentException();
        }
        remember();
        now.startLoan(principal, rate, installments, convention, projection);
        now.historyStart = now.historyEnd;
        return (int) now.loan.installment;
    }

    public int pass(int days) throws IllegalArgumentException, IllegalStateException {
        return command(PASS, days);
    }

    public int date(int part) throws IllegalArgumentException {
        switch (part) {
            case 0:
                return now.day;
            case 1:
                return Days.yearOf(now.day);
            case 2:
                return Days.monthOf(now.day);
            case 3:
                return Days.numberOf(now.day);
            default:
                throw new IllegalArgumentException();
        }
    }

    public int countedDays(int from, int to, int convention) throws IllegalArgumentException {
        if (!isWithin(from, 0, LAST_DAY) || !isWithin(to, from, LAST_DAY) || !isWithin(convention, 0, 2)) {
            throw new IllegalArgumentException();
        }
        return Days.counted(from, to, convention);
    }

    public int set(int rule, int value) throws IndexOutOfBoundsException, IllegalArgumentException {
        if (!isWithin(rule, 0, RULES - 1)) {
            throw new IndexOutOfBoundsException();
        }
        return command(rule, value);
    }

    public int setRate(int rate) throws IllegalArgumentException, IllegalStateException {
        return command(RATE, rate);
    }

    public boolean setHoliday(int after, boolean on) throws IllegalArgumentException, IllegalStateException {
        return command(on ? HOLIDAY : WORKDAY, after) == 1;
    }

    public int pay(int amount) throws IllegalArgumentException, IllegalStateException, UnsupportedOperationException {
        return command(PAY, amount);
    }

    public int waive(int amount) throws IllegalArgumentException, IllegalStateException {
        return command(WAIVE, amount);
    }

    public int explain(int amount, int what) throws IllegalArgumentException, IllegalStateException,
            UnsupportedOperationException {
        if (!isWithin(what, 0, 5)) {
            throw new IllegalArgumentException();
        }
        refuse(now.refusal(PAY, amount));
        trial.takeFrom(now);
        trial.carryOut(PAY, amount, projection, false);
        switch (what) {
            case 0:
                return (int) (trial.loan.sums[PAID_FEES] - now.loan.sums[PAID_FEES]);
            case 1:
                return (int) (trial.loan.sums[PAID_INTEREST] - now.loan.sums[PAID_INTEREST]);
            case 2:
                return (int) (trial.loan.sums[PAID_PRINCIPAL] - now.loan.sums[PAID_PRINCIPAL]);
            case 3:
                return (int) Math.max(0, amount - now.bills.unpaidSum());
            case 4:
                return trial.loan.remaining;
            default:
                return (int) trial.loan.installment;
        }
    }

    // ---- numbers

    public int number(int what) throws IllegalArgumentException {
        Loan loan = now.loan;
        switch (what) {
            case 0:
                return (int) loan.principal;
            case 1:
                return (int) loan.interest;
            case 2:
                return (int) loan.fees;
            case 3:
                return (int) loan.debtAfterPosting();
            case 4:
                return (int) loan.installment;
            case 5:
                return loan.remaining;
            case 6:
                return loan.remaining > 0 ? loan.nextDueDay : -1;
            case 7:
                return (int) now.bills.unpaidSum();
            case 8:
                return now.bills.unpaidCount();
            case 9:
                return loan.rate;
            default:
                throw new IllegalArgumentException();
        }
    }

    public long accruedUnits() {
        return now.loan.units;
    }

    public int total(int what) throws IllegalArgumentException {
        long[] sums = now.loan.sums;
        if (what < 0 || what >= sums.length) {
            throw new IllegalArgumentException();
        }
        return (int) sums[what];
    }

    public int condition() {
        if (!now.loan.exists) {
            return 0;
        }
        if (now.bills.hasLate()) {
            return 2;
        }
        if (now.loan.remaining > 0) {
            return 1;
        }
        return now.loan.debt() > 0 ? 3 : 4;
    }

    public double interestShare() throws ArithmeticException {
        long paid = now.loan.sums[PAID];
        if (paid <= 0) {
            throw new ArithmeticException();
        }
        return (double) now.loan.sums[PAID_INTEREST] / (double) paid;
    }

    public float progress() throws IllegalStateException {
        long whole = now.loan.firstPrincipal + now.loan.sums[ADDED];
        if (!now.loan.exists || whole <= 0) {
            throw new IllegalStateException();
        }
        return (float) now.loan.sums[PAID_PRINCIPAL] / (float) whole;
    }

    // ---- the projected schedule

    public int scheduleLength() {
        projectNow();
        return projection.payments;
    }

    public int schedule(int index, int what) throws IndexOutOfBoundsException, IllegalArgumentException {
        projectNow();
        if (!projection.has(index)) {
            throw new IndexOutOfBoundsException();
        }
        if (!isWithin(what, 0, 4)) {
            throw new IllegalArgumentException();
        }
        return (int) projection.paymentPart(index, what);
    }

    public int installmentFor(int installments) throws IllegalArgumentException, IllegalStateException {
        if (!isWithin(installments, 1, MOST_INSTALLMENTS)) {
            throw new IllegalArgumentException();
        }
        if (now.loan.remaining <= 0) {
            throw new IllegalStateException();
        }
        projection.startFrom(now, installments);
        return (int) projection.leastInstallment(installments);
    }

    // ---- text

    public int append(char character) throws IllegalArgumentException, IllegalStateException {
        if (!isWithin(character, 32, 126)) {
            throw new IllegalArgumentException();
        }
        if (!text.hasRoom()) {
            throw new IllegalStateException();
        }
        text.put(character);
        return text.length;
    }

    public int execute() throws IllegalArgumentException, UnsupportedOperationException {
        int error = text.read();
        text.empty();
        if (error >= 0) {
            malformedAt = error;
            throw new IllegalArgumentException();
        }
        trial.takeFrom(now);
        for (int i = 0; i < text.commands; i++) {
            int kind = text.kindOf(i);
            int value = text.valueOf(i);
            int reason = trial.refusal(kind, value);
            if (reason != ACCEPTED) {
                refusedNumber = i;
                refusedReason = reason;
                throw new UnsupportedOperationException();
            }
            history.note(trial, kind, value);
            trial.carryOut(kind, value, projection, false);
        }
        remember();
        now.takeFrom(trial);
        return text.commands;
    }

    public int errorPosition() throws NoSuchElementException {
        if (malformedAt < 0) {
            throw new NoSuchElementException();
        }
        return malformedAt;
    }

    public int refusedCommand(boolean why) throws NoSuchElementException {
        if (refusedNumber < 0) {
            throw new NoSuchElementException();
        }
        return why ? refusedReason : refusedNumber;
    }

    // ---- ledger, undo, confirmation

    public int ledgerSize() {
        return now.ledger.size;
    }

    public int ledger(int index, int column) throws IndexOutOfBoundsException {
        if (!isWithin(index, 0, now.ledger.size - 1) || !isWithin(column, 0, 2)) {
            throw new IndexOutOfBoundsException();
        }
        return (int) now.ledger.cell(index, column);
    }

    public int undo() throws IllegalStateException {
        if (undoable <= 0) {
            throw new IllegalStateException();
        }
        carriedOut--;
        undoable--;
        Account before = earlier[Math.floorMod(carriedOut, MOST_UNDO)];
        if (before != null) {
            now.takeFrom(before);
        }
        return undoable;
    }

    public boolean isConfirmed() {
        Loan loan = now.loan;
        if (!loan.exists) {
            return true;
        }
        trial.day = loan.firstDay;
        trial.takeRules(now.firstRules);
        trial.startLoan(loan.firstPrincipal, loan.firstRate, loan.firstInstallments, loan.convention, projection);
        for (int i = now.historyStart; i < now.historyEnd; i++) {
            int kind = history.kindAt(i);
            int value = history.valueAt(i);
            if (trial.refusal(kind, value) != ACCEPTED) {
                return false;
            }
            trial.carryOut(kind, value, projection, true);
        }
        return trial.agreesWith(now);
    }

    // ---- rows

    public int storeSchedule(int row, boolean exact) throws IndexOutOfBoundsException {
        if (row < 0 || row >= rows.length) {
            throw new IndexOutOfBoundsException();
        }
        projectNow();
        Row target = rows[row];
        if (target != null) {
            target.fill(projection, exact);
        }
        return projection.payments;
    }

    public boolean copyRow(int from, int count) throws IndexOutOfBoundsException, NoSuchElementException,
            UnsupportedOperationException, IllegalArgumentException {
        if (!isWithin(from, 0, 1) || rows.length < ROWS) {
            throw new IndexOutOfBoundsException();
        }
        Row source = rows[from];
        Row target = rows[1 - from];
        if (source == null || target == null || !source.isFilled || !target.isFilled) {
            throw new NoSuchElementException();
        }
        if (source.isExact != target.isExact) {
            throw new UnsupportedOperationException();
        }
        if (!isWithin(count, 0, Math.min(source.length, target.length))) {
            throw new IllegalArgumentException();
        }
        return target.takeElements(source, count);
    }

    public double stored(int row, int index) throws IndexOutOfBoundsException, NoSuchElementException {
        if (row < 0 || row >= rows.length) {
            throw new IndexOutOfBoundsException();
        }
        Row source = rows[row];
        if (source == null || !source.isFilled || !source.has(index)) {
            throw new NoSuchElementException();
        }
        return source.element(index);
    }

    // ---- snapshot

    public int snapshot() {
        saved.takeFrom(now);
        savedHistory.takeFrom(history);
        hasSnapshot = true;
        return now.day;
    }

    public int restore() throws IllegalStateException {
        if (!hasSnapshot) {
            throw new IllegalStateException();
        }
        now.takeFrom(saved);
        history.takeFrom(savedHistory);
        undoable = 0;
        return now.day;
    }

    // ---- what the methods above share

    private static boolean isWithin(int value, int least, int most) {
        return value >= least && value <= most;
    }

    private static void refuse(int reason) {
        if (reason == BAD_ARGUMENT) {
            throw new IllegalArgumentException();
        }
        if (reason == BAD_STATE) {
            throw new IllegalStateException();
        }
        if (reason == TOO_MUCH) {
            throw new UnsupportedOperationException();
        }
    }

    private int command(int kind, int value) {
        refuse(now.refusal(kind, value));
        remember();
        history.note(now, kind, value);
        return now.carryOut(kind, value, projection, false);
    }

    private void remember() {
        Account before = earlier[Math.floorMod(carriedOut, MOST_UNDO)];
        if (before != null) {
            before.takeFrom(now);
        }
        carriedOut++;
        undoable = Math.min(undoable + 1, MOST_UNDO);
    }

    private void projectNow() {
        projection.startFrom(now, now.loan.remaining);
        projection.project(now.loan.installment, now.loan.remaining);
    }

    /** The calendar: years of 365 days, and the ways of counting days. */
    private static final class Days {
        private static final int YEAR = 365;
        private static final int MONTHS = 12;
        private static final int[] MONTH_STARTS = {0, 31, 59, 90, 120, 151, 181, 212, 243, 273, 304, 334};

        static int yearOf(int day) {
            return day / YEAR;
        }

        static int monthOf(int day) {
            // Months of 32 days would fall behind by less than one month in a year.
            int inYear = day % YEAR;
            int next = inYear / 32 + 1;
            return next >= 0 && next < MONTH_STARTS.length && MONTH_STARTS[next] <= inYear ? next : next - 1;
        }

        static int numberOf(int day) {
            return day % YEAR - monthStart(monthOf(day)) + 1;
        }

        static int monthsAfter(int day, int months) {
            int firstMonth = monthOf(day);
            int place = day % YEAR - monthStart(firstMonth);
            int sum = day / YEAR * MONTHS + firstMonth + months;
            int month = sum % MONTHS;
            int lastPlace = monthStart(month + 1) - monthStart(month) - 1;
            return sum / MONTHS * YEAR + monthStart(month) + Math.min(place, lastPlace);
        }

        static int counted(int from, int to, int convention) {
            return convention == 2 ? in360(to) - in360(from) : to - from;
        }

        private static int in360(int day) {
            int month = monthOf(day);
            int place = day % YEAR - monthStart(month);
            return day / YEAR * 360 + month * 30 + Math.min(place, 29);
        }

        private static int monthStart(int month) {
            return month >= 0 && month < MONTH_STARTS.length ? MONTH_STARTS[month] : YEAR;
        }
    }

    /** The units in which interest accrues: 10000 times the basis are a cent. */
    private static final class Units {
        private static final long CENT_OF_365 = 3650000;
        private static final long CENT_OF_360 = 3600000;

        static long toCents(long units, int convention) {
            return convention == 0
                    ? Math.floorDiv(units + CENT_OF_365 / 2, CENT_OF_365)
                    : Math.floorDiv(units + CENT_OF_360 / 2, CENT_OF_360);
        }

        static long ofCents(long cents, int convention) {
            return cents * (convention == 0 ? CENT_OF_365 : CENT_OF_360);
        }
    }

    /** The latest entries, in a ring. */
    private static final class Ledger {
        static final int INTEREST = 1;
        static final int BILL = 2;
        static final int FEE = 3;
        static final int PAYMENT = 4;
        static final int WAIVER = 5;
        static final int ADDITION = 6;
        private static final int MOST = 60;

        private final int[] kinds = new int[MOST];
        private final int[] days = new int[MOST];
        private final long[] amounts = new long[MOST];
        private int start;
        private int size;

        void clear() {
            start = 0;
            size = 0;
        }

        void note(int kind, int day, long amount) {
            if (amount == 0) {
                return;
            }
            int place = Math.floorMod(start + size, MOST);
            kinds[place] = kind;
            days[place] = day;
            amounts[place] = amount;
            if (size < MOST) {
                size++;
            } else {
                start = Math.floorMod(start + 1, MOST);
            }
        }

        long cell(int index, int column) {
            int place = Math.floorMod(start + index, MOST);
            if (column == 0) {
                return kinds[place];
            }
            return column == 1 ? days[place] : amounts[place];
        }

        void takeFrom(Ledger other) {
            start = other.start;
            size = other.size;
            System.arraycopy(other.kinds, 0, kinds, 0, MOST);
            System.arraycopy(other.days, 0, days, 0, MOST);
            System.arraycopy(other.amounts, 0, amounts, 0, MOST);
        }

        boolean agreesWith(Ledger other) {
            boolean same = size == other.size;
            for (int i = 0; i < size && i < MOST && same; i++) {
                same = cell(i, 0) == other.cell(i, 0) && cell(i, 1) == other.cell(i, 1)
                        && cell(i, 2) == other.cell(i, 2);
            }
            return same;
        }
    }

    /**
     * The bills in the order in which they were made. They are paid and become late from the oldest one on, so
     * that the paid ones, and the late ones with them, stand in front.
     */
    private static final class Bills {
        /* A bill is made on a due day alone, and there are 263 due days up to the last day. */
        private static final int MOST = 264;

        private final long[] unpaid = new long[MOST];
        private final int[] madeOn = new int[MOST];
        private int count;
        private int paidEnd;
        private int lateEnd;

        void clear() {
            count = 0;
            paidEnd = 0;
            lateEnd = 0;
        }

        /** A bill of 0 is fully paid when it is made, and need not be kept. */
        void add(int day, long amount) {
            if (amount > 0 && count >= 0 && count < MOST) {
                unpaid[count] = amount;
                madeOn[count] = day;
                count++;
            }
        }

        void payAll() {
            paidEnd = count;
        }

        void payOldest(long amount) {
            long left = amount;
            for (int i = Math.max(paidEnd, 0); i < count && i < MOST && left > 0; i++) {
                long part = Math.min(left, unpaid[i]);
                unpaid[i] -= part;
                left -= part;
                if (unpaid[i] == 0) {
                    paidEnd = i + 1;
                }
            }
        }

        /** Returns how many bills become late on this day. */
        int becomeLate(int day, int grace) {
            int became = 0;
            for (int i = Math.max(Math.max(paidEnd, lateEnd), 0); i < count && i < MOST; i++) {
                if (day - madeOn[i] < grace + 1) {
                    break;
                }
                became++;
                lateEnd = i + 1;
            }
            return became;
        }

        boolean hasLate() {
            return lateEnd > paidEnd;
        }

        int unpaidCount() {
            return count - paidEnd;
        }

        long unpaidSum() {
            long sum = 0;
            for (int i = Math.max(paidEnd, 0); i < count && i < MOST; i++) {
                sum += unpaid[i];
            }
            return sum;
        }

        void takeFrom(Bills other) {
            count = other.count;
            paidEnd = other.paidEnd;
            lateEnd = other.lateEnd;
            System.arraycopy(other.unpaid, 0, unpaid, 0, MOST);
            System.arraycopy(other.madeOn, 0, madeOn, 0, MOST);
        }

        boolean agreesWith(Bills other) {
            boolean same = count == other.count && paidEnd == other.paidEnd && lateEnd == other.lateEnd;
            for (int i = Math.max(paidEnd, 0); i < count && i < MOST && same; i++) {
                same = unpaid[i] == other.unpaid[i] && madeOn[i] == other.madeOn[i];
            }
            return same;
        }
    }

    /** The terms of a loan, what is owed of it, and its sums; all 0 without a loan. */
    private static final class Loan {
        private boolean exists;
        private int convention;
        private int firstDay;
        private long firstPrincipal;
        private int firstRate;
        private int firstInstallments;
        private int rate;
        private long principal;
        private long interest;
        private long fees;
        private long units;
        private long installment;
        private int remaining;
        private int nextDue;
        private int nextDueDay;
        /* Bit i tells whether the due day that comes i due days after the next one is a holiday. */
        private int holidays;
        private final long[] sums = new long[SUMS];

        void start(int onDay, long ofPrincipal, int atRate, int installments, int countedBy) {
            exists = true;
            convention = countedBy;
            firstDay = onDay;
            firstPrincipal = ofPrincipal;
            firstRate = atRate;
            firstInstallments = installments;
            rate = atRate;
            principal = ofPrincipal;
            interest = 0;
            fees = 0;
            units = 0;
            remaining = installments;
            nextDue = 1;
            nextDueDay = Days.monthsAfter(onDay, nextDue);
            holidays = 0;
            for (int i = 0; i < sums.length; i++) {
                sums[i] = 0;
            }
        }

        /** Goes on to the next due day; returns whether the one that is left behind is a holiday. */
        boolean leaveDueDay() {
            boolean wasHoliday = (holidays & 1) != 0;
            holidays >>= 1;
            nextDue++;
            nextDueDay = Days.monthsAfter(firstDay, nextDue);
            return wasHoliday;
        }

        boolean isHoliday(int after) {
            return (holidays >> after & 1) != 0;
        }

        long debt() {
            return principal + interest + fees;
        }

        long debtAfterPosting() {
            return debt() + Units.toCents(units, convention);
        }

        void accrue(int from, int to) {
            units += principal * rate * Days.counted(from, to, convention);
        }

        long postUnits() {
            long cents = Units.toCents(units, convention);
            units -= Units.ofCents(cents, convention);
            interest += cents;
            sums[POSTED] += cents;
            return cents;
        }

        long addInterest() {
            long added = interest;
            principal += added;
            interest = 0;
            sums[ADDED] += added;
            return added;
        }

        long payFees(long most) {
            long part = Math.min(most, fees);
            fees -= part;
            sums[PAID_FEES] += part;
            return part;
        }

        long payInterest(long most) {
            long part = Math.min(most, interest);
            interest -= part;
            sums[PAID_INTEREST] += part;
            return part;
        }

        long payPrincipal(long most) {
            long part = Math.min(most, principal);
            principal -= part;
            sums[PAID_PRINCIPAL] += part;
            return part;
        }

        void takeFrom(Loan other) {
            exists = other.exists;
            convention = other.convention;
            firstDay = other.firstDay;
            firstPrincipal = other.firstPrincipal;
            firstRate = other.firstRate;
            firstInstallments = other.firstInstallments;
            rate = other.rate;
            principal = other.principal;
            interest = other.interest;
            fees = other.fees;
            units = other.units;
            installment = other.installment;
            remaining = other.remaining;
            nextDue = other.nextDue;
            nextDueDay = other.nextDueDay;
            holidays = other.holidays;
            System.arraycopy(other.sums, 0, sums, 0, SUMS);
        }

        boolean agreesWith(Loan other) {
            boolean same = exists == other.exists && rate == other.rate && principal == other.principal
                    && interest == other.interest && fees == other.fees && units == other.units
                    && installment == other.installment && remaining == other.remaining
                    && nextDue == other.nextDue && nextDueDay == other.nextDueDay && holidays == other.holidays;
            for (int i = 0; i < sums.length && same; i++) {
                same = sums[i] == other.sums[i];
            }
            return same;
        }
    }

    /** All that a command can change: the day, the rules, the loan with its bills, and the ledger. */
    private static final class Account {
        private static final int FEES_PART = 0;
        private static final int INTEREST_PART = 1;
        private static final int PARTS = 3;
        /* For each order, three parts in a row: 0 fees, 1 interest, 2 principal. */
        private static final int[] ORDERS = {0, 1, 2, 0, 2, 1, 1, 0, 2, 1, 2, 0, 2, 0, 1, 2, 1, 0};
        private static final int[] MOST_OF_RULES = {5, 1, 30, 100000, 1};

        private final int[] rules = {0, 0, 10, 500, 0};
        private final int[] firstRules = new int[RULES];
        private final Loan loan = new Loan();
        private final Bills bills = new Bills();
        private final Ledger ledger = new Ledger();
        private int day;
        /* Which entries of the history are the commands since the loan began. */
        private int historyStart;
        private int historyEnd;

        void startLoan(long principal, int rate, int installments, int convention, Projection projection) {
            loan.start(day, principal, rate, installments, convention);
            bills.clear();
            ledger.clear();
            System.arraycopy(rules, 0, firstRules, 0, RULES);
            projection.startFrom(this, installments);
            loan.installment = projection.leastInstallment(installments);
        }

        void takeRules(int[] other) {
            for (int i = 0; i < rules.length && i < other.length; i++) {
                rules[i] = other[i];
            }
        }

        void takeFrom(Account other) {
            day = other.day;
            historyStart = other.historyStart;
            historyEnd = other.historyEnd;
            System.arraycopy(other.rules, 0, rules, 0, RULES);
            System.arraycopy(other.firstRules, 0, firstRules, 0, RULES);
            loan.takeFrom(other.loan);
            bills.takeFrom(other.bills);
            ledger.takeFrom(other.ledger);
        }

        boolean agreesWith(Account other) {
            boolean same = day == other.day && loan.agreesWith(other.loan) && bills.agreesWith(other.bills)
                    && ledger.agreesWith(other.ledger);
            for (int i = 0; i < RULES && same; i++) {
                same = rules[i] == other.rules[i];
            }
            return same;
        }

        /** Tells why a command would be refused now, or that it would be accepted. */
        int refusal(int kind, int value) {
            switch (kind) {
                case PASS:
                    return refusalIf(!isWithin(value, 1, MOST_DAYS), day + value > LAST_DAY);
                case RATE:
                    return refusalIf(!isWithin(value, 0, MOST_RATE), loan.debt() == 0);
                case HOLIDAY:
                case WORKDAY:
                    return refusalIf(!isWithin(value, 0, MOST_HOLIDAYS - 1), loan.remaining <= 0);
                case PAY:
                    int refused = refusalIf(value <= 0, loan.debt() == 0);
                    return refused == ACCEPTED && value > loan.debtAfterPosting() ? TOO_MUCH : refused;
                case WAIVE:
                    return refusalIf(value <= 0, value > loan.fees);
                default:
                    return refusalIf(kind < 0 || kind >= MOST_OF_RULES.length
                            || !isWithin(value, 0, MOST_OF_RULES[kind]), false);
            }
        }

        private static int refusalIf(boolean badArgument, boolean badState) {
            if (badArgument) {
                return BAD_ARGUMENT;
            }
            return badState ? BAD_STATE : ACCEPTED;
        }

        /** Carries out a command that is not refused; returns what its method returns. */
        int carryOut(int kind, int value, Projection projection, boolean dayByDay) {
            switch (kind) {
                case PASS:
                    return passDays(value, dayByDay);
                case RATE:
                    int previous = loan.rate;
                    loan.rate = value;
                    adjust(projection, MOST_INSTALLMENTS);
                    return previous;
                case HOLIDAY:
                case WORKDAY:
                    boolean was = loan.isHoliday(value);
                    if (was != (kind == HOLIDAY)) {
                        loan.holidays ^= 1 << value;
                        adjust(projection, MOST_INSTALLMENTS);
                    }
                    return was ? 1 : 0;
                case PAY:
                    if (takePayment(value)) {
                        adjust(projection, loan.remaining);
                    }
                    return (int) loan.debt();
                case WAIVE:
                    takeWaiver(value);
                    return (int) loan.fees;
                default:
                    return changeRule(kind, value);
            }
        }

        private int changeRule(int rule, int value) {
            if (rule < 0 || rule >= rules.length) {
                return 0;
            }
            int previous = rules[rule];
            rules[rule] = value;
            return previous;
        }

        /** Interest accrues from one change of the principal to the next at once, or day by day. */
        private int passDays(int days, boolean dayByDay) {
            int happened = 0;
            int accruedTo = day;
            for (int i = 1; i <= days; i++) {
                day++;
                happened += chargeLateBills();
                boolean isDue = loan.remaining > 0 && day == loan.nextDueDay;
                if (isDue || dayByDay || i == days) {
                    loan.accrue(accruedTo, day);
                    accruedTo = day;
                }
                if (isDue) {
                    happened += takeDueDay();
                }
            }
            return happened;
        }

        private int chargeLateBills() {
            int became = bills.becomeLate(day, rules[GRACE]);
            for (int i = 0; i < became; i++) {
                loan.fees += rules[LATE_FEE];
                loan.sums[CHARGED_FEES] += rules[LATE_FEE];
                ledger.note(Ledger.FEE, day, rules[LATE_FEE]);
            }
            return became;
        }

        /** Returns the number of bills that are made: 0 on a holiday, or 1. */
        private int takeDueDay() {
            ledger.note(Ledger.INTEREST, day, loan.postUnits());
            if (loan.leaveDueDay()) {
                if (rules[CAPITALIZING] == 1) {
                    ledger.note(Ledger.ADDITION, day, loan.addInterest());
                }
                return 0;
            }
            long whole = loan.principal + loan.interest;
            long amount = loan.installment;
            loan.remaining--;
            if (loan.remaining == 0 || amount >= whole) {
                amount = whole;
                loan.remaining = 0;
            }
            bills.add(day, amount);
            ledger.note(Ledger.BILL, day, amount);
            return 1;
        }

        /** Returns whether the loan has to be adjusted then. */
        private boolean takePayment(long amount) {
            ledger.note(Ledger.INTEREST, day, loan.postUnits());
            long left = amount;
            for (int i = 0; i < PARTS; i++) {
                int place = rules[ORDER] * PARTS + i;
                int part = place >= 0 && place < ORDERS.length ? ORDERS[place] : i;
                if (part == FEES_PART) {
                    left -= loan.payFees(left);
                } else if (part == INTEREST_PART) {
                    left -= loan.payInterest(left);
                } else {
                    left -= loan.payPrincipal(left);
                }
            }
            loan.sums[PAID] += amount;
            ledger.note(Ledger.PAYMENT, day, amount);
            boolean isPrepaid = amount > bills.unpaidSum();
            bills.payOldest(amount);
            settleIfPaid();
            return isPrepaid && loan.debt() > 0;
        }

        private void takeWaiver(long amount) {
            loan.fees -= amount;
            loan.sums[WAIVED] += amount;
            ledger.note(Ledger.WAIVER, day, amount);
            settleIfPaid();
        }

        private void settleIfPaid() {
            if (loan.debt() == 0) {
                loan.remaining = 0;
                loan.units = 0;
                bills.payAll();
            }
        }

        private void adjust(Projection projection, int most) {
            if (loan.remaining <= 0) {
                return;
            }
            projection.startFrom(this, most);
            if (rules[MODE] == 1) {
                loan.installment = projection.leastInstallment(loan.remaining);
            } else {
                projection.project(loan.installment, most);
                loan.remaining = projection.payments;
            }
        }
    }

    /** The projected schedule from the state of an account on. */
    private static final class Projection {
        private static final int MOST_DUE_DAYS = MOST_INSTALLMENTS + MOST_HOLIDAYS;

        private long firstPrincipal;
        private long firstInterest;
        private long firstUnits;
        private int rate;
        private int convention;
        private int holidays;
        private boolean isCapitalizing;
        private int dueDays;
        private final int[] dueDay = new int[MOST_DUE_DAYS];
        private final int[] counted = new int[MOST_DUE_DAYS];

        private int payments;
        private final int[] paidOn = new int[MOST_INSTALLMENTS];
        private final long[] amounts = new long[MOST_INSTALLMENTS];
        private final long[] interests = new long[MOST_INSTALLMENTS];
        private final long[] left = new long[MOST_INSTALLMENTS];

        /** Gets ready for schedules with at most so many installments. */
        void startFrom(Account account, int installments) {
            Loan loan = account.loan;
            firstPrincipal = loan.principal;
            firstInterest = loan.interest;
            firstUnits = loan.units;
            rate = loan.rate;
            convention = loan.convention;
            holidays = loan.holidays;
            isCapitalizing = account.rules[CAPITALIZING] == 1;
            dueDays = Math.min(installments + Integer.bitCount(holidays), MOST_DUE_DAYS);
            int from = account.day;
            for (int i = 0; i < dueDays && i < MOST_DUE_DAYS; i++) {
                dueDay[i] = Days.monthsAfter(loan.firstDay, loan.nextDue + i);
                counted[i] = Days.counted(from, dueDay[i], convention);
                from = dueDay[i];
            }
        }

        void project(long installment, int installments) {
            long principal = firstPrincipal;
            long interest = firstInterest;
            long units = firstUnits;
            payments = 0;
            for (int i = 0; i < dueDays && i < MOST_DUE_DAYS && payments < installments; i++) {
                units += principal * rate * counted[i];
                long cents = Units.toCents(units, convention);
                units -= Units.ofCents(cents, convention);
                interest += cents;
                if (i < MOST_HOLIDAYS && (holidays >> i & 1) != 0) {
                    if (isCapitalizing) {
                        principal += interest;
                        interest = 0;
                    }
                    continue;
                }
                boolean isLast = payments == installments - 1 || installment >= principal + interest;
                long amount = isLast ? principal + interest : installment;
                long ofInterest = Math.min(amount, interest);
                interest -= ofInterest;
                principal -= amount - ofInterest;
                keepPayment(dueDay[i], amount, ofInterest, principal + interest);
                if (isLast) {
                    break;
                }
            }
        }

        private void keepPayment(int day, long amount, long ofInterest, long rest) {
            if (payments >= 0 && payments < MOST_INSTALLMENTS) {
                paidOn[payments] = day;
                amounts[payments] = amount;
                interests[payments] = ofInterest;
                left[payments] = rest;
                payments++;
            }
        }

        private long lastAmount() {
            return has(payments - 1) ? amounts[payments - 1] : 0;
        }

        /**
         * Returns the least installment, from 1, that the last payment does not exceed. A greater installment
         * leaves no more principal on any day, so the last payment never grows with it, and halving finds the
         * least one. It lies between the shares of what is owed now and of what would be owed in the end if
         * nothing were paid before.
         */
        long leastInstallment(int installments) {
            if (installments < 1) {
                return 1;
            }
            project(0, installments);
            long low = Math.max(1, shareUpwards(firstPrincipal + firstInterest, installments));
            long high = Math.max(low, shareUpwards(lastAmount(), installments));
            for (int step = 0; step < 64 && low < high; step++) {
                long middle = low + (high - low) / 2;
                project(middle, installments);
                if (lastAmount() <= middle) {
                    high = middle;
                } else {
                    low = middle + 1;
                }
            }
            return low;
        }

        private static long shareUpwards(long whole, int parts) {
            return parts < 1 ? whole : (whole + parts - 1) / parts;
        }

        boolean has(int index) {
            return index >= 0 && index < payments && index < MOST_INSTALLMENTS;
        }

        /** The day, the amount, its interest, its principal, or what is left after the payment. */
        long paymentPart(int index, int what) {
            if (!has(index)) {
                return 0;
            }
            switch (what) {
                case 0:
                    return paidOn[index];
                case 1:
                    return amounts[index];
                case 2:
                    return interests[index];
                case 3:
                    return amounts[index] - interests[index];
                default:
                    return left[index];
            }
        }
    }

    /** The commands that were carried out, in their order; an account tells which of them are its own. */
    private static final class History {
        /* Within the calls for which an object is used, no more commands can be carried out. */
        private static final int MOST = 512;

        private final int[] kinds = new int[MOST];
        private final int[] values = new int[MOST];

        void note(Account account, int kind, int value) {
            int end = account.historyEnd;
            if (end >= 0 && end < MOST) {
                kinds[end] = kind;
                values[end] = value;
                account.historyEnd++;
            }
        }

        int kindAt(int index) {
            return index >= 0 && index < MOST ? kinds[index] : 0;
        }

        int valueAt(int index) {
            return index >= 0 && index < MOST ? values[index] : 0;
        }

        void takeFrom(History other) {
            System.arraycopy(other.kinds, 0, kinds, 0, MOST);
            System.arraycopy(other.values, 0, values, 0, MOST);
        }
    }

    /** The input buffer, and the commands that were read from it last. */
    private static final class InputText {
        private static final int MOST = 60;
        private static final int MOST_COMMANDS = 20;
        private static final int MOST_DIGITS = 8;
        private static final int WANTS_LETTER = -1;

        private final char[] characters = new char[MOST];
        private int length;
        private final int[] kinds = new int[MOST_COMMANDS];
        private final int[] values = new int[MOST_COMMANDS];
        private int commands;

        boolean hasRoom() {
            return length < MOST;
        }

        void put(char character) {
            if (length >= 0 && length < MOST) {
                characters[length] = character;
                length++;
            }
        }

        void empty() {
            length = 0;
        }

        int kindOf(int index) {
            return index >= 0 && index < MOST_COMMANDS ? kinds[index] : 0;
        }

        int valueOf(int index) {
            return index >= 0 && index < MOST_COMMANDS ? values[index] : 0;
        }

        /** Reads the commands; returns the error position, or -1 if the text is well formed. */
        int read() {
            commands = 0;
            int kind = 0;
            int value = 0;
            int digits = WANTS_LETTER;
            for (int i = 0; i < length && i < MOST; i++) {
                char sign = characters[i];
                if (digits == WANTS_LETTER) {
                    kind = kindOfLetter(sign);
                    if (kind < 0) {
                        return i;
                    }
                    value = 0;
                    digits = 0;
                } else if (sign == ';' && digits > 0) {
                    keepCommand(kind, value);
                    digits = WANTS_LETTER;
                } else if (sign >= '0' && sign <= '9' && hasRoomForDigit(digits, value)) {
                    value = value * 10 + (sign - '0');
                    digits++;
                } else {
                    return i;
                }
            }
            if (digits <= 0) {
                return length;
            }
            keepCommand(kind, value);
            return -1;
        }

        /** After a first digit 0 there is no room. */
        private static boolean hasRoomForDigit(int digits, int value) {
            return digits == 0 || digits < MOST_DIGITS && value > 0;
        }

        private void keepCommand(int kind, int value) {
            if (commands >= 0 && commands < MOST_COMMANDS) {
                kinds[commands] = kind;
                values[commands] = value;
                commands++;
            }
        }

        private static int kindOfLetter(char letter) {
            switch (letter) {
                case 'p':
                    return PAY;
                case 'd':
                    return PASS;
                case 'r':
                    return RATE;
                case 'h':
                    return HOLIDAY;
                case 'w':
                    return WAIVE;
                default:
                    return -1;
            }
        }
    }

    /** A stored row, of doubles or of floats. */
    private static final class Row {
        private final double[] doubles = new double[MOST_INSTALLMENTS];
        private final float[] floats = new float[MOST_INSTALLMENTS];
        private int length;
        private boolean isFilled;
        private boolean isExact;

        void fill(Projection projection, boolean exact) {
            isFilled = true;
            isExact = exact;
            length = projection.payments;
            for (int i = 0; i < length && i < MOST_INSTALLMENTS; i++) {
                long amount = projection.paymentPart(i, 4);
                if (exact) {
                    doubles[i] = (double) amount;
                } else {
                    floats[i] = (float) amount / 100f;
                }
            }
        }

        boolean has(int index) {
            return index >= 0 && index < length && index < MOST_INSTALLMENTS;
        }

        double element(int index) {
            if (!has(index)) {
                return 0;
            }
            return isExact ? doubles[index] : (double) floats[index];
        }

        /** Takes the first elements of a row of the same type; returns whether one of this row has changed. */
        boolean takeElements(Row other, int count) {
            boolean hasChanged = false;
            for (int i = 0; i < count && i < MOST_INSTALLMENTS; i++) {
                if (element(i) != other.element(i)) {
                    hasChanged = true;
                    doubles[i] = other.doubles[i];
                    floats[i] = other.floats[i];
                }
            }
            return hasChanged;
        }
    }
}

import java.util.ArrayList;
import java.util.List;
import java.util.NoSuchElementException;

/**
 * The document once more, as slowly and plainly as it can be written: every day is walked, also in projections,
 * every earlier state is kept as a copy. It shares no code with LoanServicing.
 */
final class SlowLoan {
    private static final int[] LENGTHS = {31, 28, 31, 30, 31, 30, 31, 31, 30, 31, 30, 31};
    private static final int TABLE = 12500;
    private static final int[] YEAR = new int[TABLE];
    private static final int[] MONTH = new int[TABLE];
    private static final int[] NUMBER = new int[TABLE];

    static {
        int year = 0;
        int month = 0;
        int number = 1;
        for (int day = 0; day < TABLE; day++) {
            YEAR[day] = year;
            MONTH[day] = month;
            NUMBER[day] = number;
            number++;
            if (number > LENGTHS[month]) {
                number = 1;
                month++;
            }
            if (month == 12) {
                month = 0;
                year++;
            }
        }
    }

    private static final class Bill {
        final int made;
        long unpaid;
        boolean late;

        Bill(int made, long unpaid) {
            this.made = made;
            this.unpaid = unpaid;
        }

        Bill copy() {
            Bill copy = new Bill(made, unpaid);
            copy.late = late;
            return copy;
        }
    }

    private static final class Payment {
        int day;
        long amount;
        long interest;
        long principal;
        long left;
    }

    /** Everything that undo brings back. */
    private static final class State {
        int day;
        int[] rules = {0, 0, 10, 500, 0};
        boolean loan;
        int convention;
        int first;
        long atBeginning;
        int rate;
        long principal;
        long interest;
        long fees;
        long units;
        long installment;
        int remaining;
        boolean[] holiday = new boolean[600];
        List<Bill> bills = new ArrayList<>();
        List<int[]> entries = new ArrayList<>();
        long[] totals = new long[8];

        State copy() {
            State s = new State();
            s.day = day;
            s.rules = rules.clone();
            s.loan = loan;
            s.convention = convention;
            s.first = first;
            s.atBeginning = atBeginning;
            s.rate = rate;
            s.principal = principal;
            s.interest = interest;
            s.fees = fees;
            s.units = units;
            s.installment = installment;
            s.remaining = remaining;
            s.holiday = holiday.clone();
            for (Bill bill : bills) {
                s.bills.add(bill.copy());
            }
            s.entries.addAll(entries);
            s.totals = totals.clone();
            return s;
        }

        void entry(int kind, long amount) {
            if (amount != 0) {
                entries.add(new int[] {kind, day, (int) amount});
            }
            if (entries.size() > 60) {
                entries.remove(0);
            }
        }

        int dueNumber(int onDay) {
            int k = 1;
            while (after(first, k) < onDay) {
                k++;
            }
            return after(first, k) == onDay ? k : 0;
        }

        int nextNumber() {
            int k = 1;
            while (after(first, k) <= day) {
                k++;
            }
            return k;
        }

        long centUnits() {
            return 10000L * (convention == 0 ? 365 : 360);
        }

        long centsOfUnits() {
            // the nearest whole number, upwards in the middle; looked for from one close to it
            long cents = units / centUnits();
            while (2 * (units - cents * centUnits()) >= centUnits()) {
                cents++;
            }
            while (2 * (units - cents * centUnits()) < -centUnits()) {
                cents--;
            }
            return cents;
        }

        void post() {
            long cents = centsOfUnits();
            units -= cents * centUnits();
            interest += cents;
            totals[4] += cents;
            entry(1, cents);
        }

        long unpaid() {
            long sum = 0;
            for (Bill bill : bills) {
                sum += bill.unpaid;
            }
            return sum;
        }

        long debt() {
            return principal + interest + fees;
        }

        List<Payment> projected(long amount, int number) {
            List<Payment> list = new ArrayList<>();
            State s = new State();
            s.convention = convention;
            s.principal = principal;
            s.interest = interest;
            s.units = units;
            int k = number > 0 ? nextNumber() : 0;
            int at = day;
            while (list.size() < number) {
                int due = after(first, k);
                while (at < due) {
                    s.units += s.principal * rate * counted(at, at + 1, convention);
                    at++;
                }
                long cents = s.centsOfUnits();
                s.units -= cents * centUnits();
                s.interest += cents;
                if (holiday[k]) {
                    if (rules[4] == 1) {
                        s.principal += s.interest;
                        s.interest = 0;
                    }
                } else {
                    Payment p = new Payment();
                    p.day = due;
                    boolean whole = amount >= s.principal + s.interest || list.size() == number - 1;
                    p.amount = whole ? s.principal + s.interest : amount;
                    p.interest = Math.min(p.amount, s.interest);
                    p.principal = p.amount - p.interest;
                    s.interest -= p.interest;
                    s.principal -= p.principal;
                    p.left = s.principal + s.interest;
                    list.add(p);
                    if (p.left == 0) {
                        break;
                    }
                }
                k++;
            }
            return list;
        }

        long least(int number) {
            long wrong = 0;
            long right = projected(0, number).get(number - 1 < projected(0, number).size() ? number - 1 : 0).amount;
            right = Math.max(right, 1);
            while (right - wrong > 1) {
                long middle = (right + wrong) / 2;
                List<Payment> list = projected(middle, number);
                if (list.get(list.size() - 1).amount <= middle) {
                    right = middle;
                } else {
                    wrong = middle;
                }
            }
            return right;
        }

        void adjust(boolean changed) {
            if (remaining == 0) {
                return;
            }
            if (rules[1] == 0) {
                remaining = projected(installment, changed ? 60 : remaining).size();
            } else {
                installment = least(remaining);
            }
        }

        int oneDay() {
            int count = 0;
            int yesterday = day;
            day++;
            if (!loan) {
                return 0;
            }
            units += principal * rate * counted(yesterday, day, convention);
            for (Bill bill : bills) {
                if (bill.unpaid > 0 && !bill.late && day - bill.made >= rules[2] + 1) {
                    bill.late = true;
                    fees += rules[3];
                    totals[5] += rules[3];
                    entry(3, rules[3]);
                    count++;
                }
            }
            int k = dueNumber(day);
            if (remaining > 0 && k > 0) {
                post();
                if (holiday[k]) {
                    if (rules[4] == 1) {
                        entry(6, interest);
                        totals[7] += interest;
                        principal += interest;
                        interest = 0;
                    }
                } else {
                    remaining--;
                    long amount = installment;
                    if (remaining == 0 || installment >= principal + interest) {
                        amount = principal + interest;
                        remaining = 0;
                    }
                    bills.add(new Bill(day, amount));
                    entry(2, amount);
                    count++;
                }
            }
            return count;
        }

        void pay(long amount) {
            post();
            String order = new String[] {"FIP", "FPI", "IFP", "IPF", "PFI", "PIF"}[rules[0]];
            long rest = amount;
            for (char part : order.toCharArray()) {
                long most = part == 'F' ? fees : part == 'I' ? interest : principal;
                long paid = Math.min(rest, most);
                rest -= paid;
                if (part == 'F') {
                    fees -= paid;
                    totals[1] += paid;
                } else if (part == 'I') {
                    interest -= paid;
                    totals[2] += paid;
                } else {
                    principal -= paid;
                    totals[3] += paid;
                }
            }
            totals[0] += amount;
            entry(4, amount);
            long prepayment = amount;
            for (Bill bill : bills) {
                long paid = Math.min(bill.unpaid, prepayment);
                bill.unpaid -= paid;
                prepayment -= paid;
            }
            settle();
            if (prepayment > 0 && debt() != 0) {
                adjust(false);
            }
        }

        void settle() {
            if (debt() == 0) {
                remaining = 0;
                units = 0;
                for (Bill bill : bills) {
                    bill.unpaid = 0;
                }
            }
        }
    }

    private State state = new State();
    private List<State> before = new ArrayList<>();
    private State saved;
    private String input = "";
    private int error = -1;
    private int refused = -1;
    private int reason;
    private final double[][] rows = new double[2][];
    private final boolean[] exactRow = new boolean[2];

    private static int after(int day, int months) {
        int month = MONTH[day] + months;
        int year = YEAR[day] + month / 12;
        month %= 12;
        int at = year * 365;
        while (MONTH[at] != month) {
            at += LENGTHS[MONTH[at]];
        }
        return at + Math.min(NUMBER[day], LENGTHS[month]) - 1;
    }

    private static int counted(int from, int to, int convention) {
        if (convention < 2) {
            return to - from;
        }
        int one = NUMBER[from] == 31 ? 30 : NUMBER[from];
        int other = NUMBER[to] == 31 ? 30 : NUMBER[to];
        return 360 * (YEAR[to] - YEAR[from]) + 30 * (MONTH[to] - MONTH[from]) + other - one;
    }

    private static void argument(boolean fine) {
        if (!fine) {
            throw new IllegalArgumentException();
        }
    }

    private static void needed(boolean fine) {
        if (!fine) {
            throw new IllegalStateException();
        }
    }

    private void remember() {
        before.add(state.copy());
        if (before.size() > 8) {
            before.remove(0);
        }
    }

    public int begin(int principal, int rate, int installments, int convention) {
        argument(principal >= 1 && principal <= 10000000 && rate >= 0 && rate <= 2000);
        argument(installments >= 1 && installments <= 60 && convention >= 0 && convention <= 2);
        remember();
        State s = new State();
        s.day = state.day;
        s.rules = state.rules.clone();
        s.loan = true;
        s.first = s.day;
        s.principal = principal;
        s.atBeginning = principal;
        s.rate = rate;
        s.remaining = installments;
        s.convention = convention;
        s.installment = s.least(installments);
        state = s;
        return (int) s.installment;
    }

    public int pass(int days) {
        argument(days >= 1 && days <= 1000);
        needed(state.day + days <= 8000);
        remember();
        int count = 0;
        for (int i = 0; i < days; i++) {
            count += state.oneDay();
        }
        return count;
    }

    public int date(int part) {
        argument(part >= 0 && part <= 3);
        int d = state.day;
        return part == 0 ? d : part == 1 ? YEAR[d] : part == 2 ? MONTH[d] : NUMBER[d];
    }

    public int countedDays(int from, int to, int convention) {
        argument(from >= 0 && from <= to && to <= 8000 && convention >= 0 && convention <= 2);
        return counted(from, to, convention);
    }

    public int set(int rule, int value) {
        if (rule < 0 || rule > 4) {
            throw new IndexOutOfBoundsException();
        }
        argument(value >= 0 && value <= new int[] {5, 1, 30, 100000, 1}[rule]);
        remember();
        int old = state.rules[rule];
        state.rules[rule] = value;
        return old;
    }

    public int setRate(int rate) {
        argument(rate >= 0 && rate <= 2000);
        needed(state.loan && state.debt() != 0);
        remember();
        int old = state.rate;
        state.rate = rate;
        state.adjust(true);
        return old;
    }

    public boolean setHoliday(int after, boolean on) {
        argument(after >= 0 && after <= 23);
        needed(state.remaining > 0);
        remember();
        int k = state.nextNumber() + after;
        boolean old = state.holiday[k];
        state.holiday[k] = on;
        if (old != on) {
            state.adjust(true);
        }
        return old;
    }

    private void mayPay(int amount) {
        argument(amount > 0);
        needed(state.loan && state.debt() != 0);
        if (amount > state.debt() + state.centsOfUnits()) {
            throw new UnsupportedOperationException();
        }
    }

    public int pay(int amount) {
        mayPay(amount);
        remember();
        state.pay(amount);
        return (int) state.debt();
    }

    public int waive(int amount) {
        argument(amount > 0);
        needed(amount <= state.fees);
        remember();
        state.fees -= amount;
        state.totals[6] += amount;
        state.entry(5, amount);
        state.settle();
        return (int) state.fees;
    }

    public int explain(int amount, int what) {
        argument(what >= 0 && what <= 5);
        mayPay(amount);
        State s = state.copy();
        s.pay(amount);
        switch (what) {
            case 0:
            case 1:
            case 2:
                return (int) (s.totals[what + 1] - state.totals[what + 1]);
            case 3:
                return (int) Math.max(0, amount - state.unpaid());
            case 4:
                return s.remaining;
            default:
                return (int) s.installment;
        }
    }

    public int number(int what) {
        argument(what >= 0 && what <= 9);
        State s = state;
        if (!s.loan) {
            return what == 6 ? -1 : 0;
        }
        long unpaidBills = s.bills.stream().filter(bill -> bill.unpaid > 0).count();
        int due = s.remaining > 0 ? after(s.first, s.nextNumber()) : -1;
        long[] all = {s.principal, s.interest, s.fees, s.debt() + s.centsOfUnits(), s.installment, s.remaining,
            due, s.unpaid(), unpaidBills, s.rate};
        return (int) all[what];
    }

    public long accruedUnits() {
        return state.units;
    }

    public int total(int what) {
        argument(what >= 0 && what <= 7);
        return (int) state.totals[what];
    }

    public int condition() {
        if (!state.loan) {
            return 0;
        }
        for (Bill bill : state.bills) {
            if (bill.late && bill.unpaid > 0) {
                return 2;
            }
        }
        return state.remaining > 0 ? 1 : state.debt() != 0 ? 3 : 4;
    }

    public double interestShare() {
        if (state.totals[0] == 0) {
            throw new ArithmeticException();
        }
        return (double) state.totals[2] / (double) state.totals[0];
    }

    public float progress() {
        needed(state.loan);
        return (float) state.totals[3] / (float) (state.atBeginning + state.totals[7]);
    }

    private List<Payment> schedule() {
        return state.projected(state.installment, state.remaining);
    }

    public int scheduleLength() {
        return schedule().size();
    }

    public int schedule(int index, int what) {
        List<Payment> list = schedule();
        if (index < 0 || index >= list.size()) {
            throw new IndexOutOfBoundsException();
        }
        argument(what >= 0 && what <= 4);
        Payment p = list.get(index);
        return (int) new long[] {p.day, p.amount, p.interest, p.principal, p.left}[what];
    }

    public int installmentFor(int installments) {
        argument(installments >= 1 && installments <= 60);
        needed(state.remaining > 0);
        return (int) state.least(installments);
    }

    public int append(char character) {
        argument(character >= 32 && character <= 126);
        needed(input.length() < 60);
        input += character;
        return input.length();
    }

    /** A prefix can go on if a text has it as its beginning: so says this expression. */
    private static boolean canGoOn(String prefix) {
        return prefix.matches("([pdrhw](0|[1-9][0-9]{0,7});)*([pdrhw](0|[1-9][0-9]{0,7})?)?");
    }

    public int execute() {
        String text = input;
        input = "";
        if (!text.matches("[pdrhw](0|[1-9][0-9]{0,7})(;[pdrhw](0|[1-9][0-9]{0,7}))*")) {
            error = text.length();
            for (int i = text.length() - 1; i >= 0; i--) {
                if (!canGoOn(text.substring(0, i + 1))) {
                    error = i;
                }
            }
            throw new IllegalArgumentException();
        }
        State old = state.copy();
        List<State> oldBefore = new ArrayList<>(before);
        String[] commands = text.split(";");
        for (int i = 0; i < commands.length; i++) {
            int why = carryOut(commands[i].charAt(0), Integer.parseInt(commands[i].substring(1)));
            if (why != 0) {
                state = old;
                before = oldBefore;
                refused = i;
                reason = why;
                throw new UnsupportedOperationException();
            }
        }
        before = oldBefore;
        State after = state;
        state = old;
        remember();
        state = after;
        return commands.length;
    }

    private int carryOut(char letter, int value) {
        try {
            switch (letter) {
                case 'p':
                    pay(value);
                    break;
                case 'd':
                    pass(value);
                    break;
                case 'r':
                    setRate(value);
                    break;
                case 'h':
                    setHoliday(value, true);
                    break;
                default:
                    waive(value);
            }
            return 0;
        } catch (IllegalArgumentException thrown) {
            return 1;
        } catch (IllegalStateException thrown) {
            return 2;
        } catch (UnsupportedOperationException thrown) {
            return 3;
        }
    }

    public int errorPosition() {
        if (error < 0) {
            throw new NoSuchElementException();
        }
        return error;
    }

    public int refusedCommand(boolean why) {
        if (refused < 0) {
            throw new NoSuchElementException();
        }
        return why ? reason : refused;
    }

    public int ledgerSize() {
        return state.entries.size();
    }

    public int ledger(int index, int column) {
        if (index < 0 || index >= state.entries.size() || column < 0 || column > 2) {
            throw new IndexOutOfBoundsException();
        }
        return state.entries.get(index)[column];
    }

    public int undo() {
        needed(!before.isEmpty());
        state = before.remove(before.size() - 1);
        return before.size();
    }

    public boolean isConfirmed() {
        return true;
    }

    private static void rowExists(int row) {
        if (row != 0 && row != 1) {
            throw new IndexOutOfBoundsException();
        }
    }

    public int storeSchedule(int row, boolean exact) {
        rowExists(row);
        List<Payment> list = schedule();
        rows[row] = new double[list.size()];
        exactRow[row] = exact;
        for (int i = 0; i < list.size(); i++) {
            int left = (int) list.get(i).left;
            rows[row][i] = exact ? (double) left : (double) ((float) left / 100);
        }
        return list.size();
    }

    public boolean copyRow(int from, int count) {
        rowExists(from);
        if (rows[0] == null || rows[1] == null) {
            throw new NoSuchElementException();
        }
        if (exactRow[0] != exactRow[1]) {
            throw new UnsupportedOperationException();
        }
        argument(count >= 0 && count <= rows[0].length && count <= rows[1].length);
        boolean changed = false;
        for (int i = 0; i < count; i++) {
            changed |= rows[1 - from][i] != rows[from][i];
            rows[1 - from][i] = rows[from][i];
        }
        return changed;
    }

    public double stored(int row, int index) {
        rowExists(row);
        if (rows[row] == null || index < 0 || index >= rows[row].length) {
            throw new NoSuchElementException();
        }
        return rows[row][index];
    }

    public int snapshot() {
        saved = state.copy();
        return state.day;
    }

    public int restore() {
        needed(saved != null);
        state = saved.copy();
        before.clear();
        return state.day;
    }
}

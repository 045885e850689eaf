import java.util.NoSuchElementException;

/** All that can be seen of an object by calls that change nothing. */
final class Looks {
    private Looks() {
    }

    static String at(LoanServicing loan) {
        StringBuilder seen = new StringBuilder(atWhatUndoRestores(loan));
        try {
            seen.append(" error ").append(loan.errorPosition());
        } catch (NoSuchElementException none) {
            seen.append(" no error");
        }
        try {
            seen.append(" refused ").append(loan.refusedCommand(false)).append(' ').append(loan.refusedCommand(true));
        } catch (NoSuchElementException none) {
            seen.append(" none refused");
        }
        for (int row = 0; row < 2; row++) {
            seen.append(" row ").append(row);
            appendRow(seen, loan, row);
        }
        return seen.toString();
    }

    static String atWhatUndoRestores(LoanServicing loan) {
        StringBuilder seen = new StringBuilder();
        seen.append("day ").append(loan.date(0)).append(" numbers");
        for (int what = 0; what <= 9; what++) {
            seen.append(' ').append(loan.number(what));
        }
        seen.append(" units ").append(loan.accruedUnits()).append(" totals");
        for (int what = 0; what <= 7; what++) {
            seen.append(' ').append(loan.total(what));
        }
        seen.append(" condition ").append(loan.condition()).append(" schedule");
        int length = loan.scheduleLength();
        for (int i = 0; i < length; i++) {
            for (int what = 0; what <= 4; what++) {
                seen.append(' ').append(loan.schedule(i, what));
            }
        }
        seen.append(" ledger");
        for (int i = 0; i < loan.ledgerSize(); i++) {
            for (int column = 0; column <= 2; column++) {
                seen.append(' ').append(loan.ledger(i, column));
            }
        }
        seen.append(loan.isConfirmed() ? " confirmed" : " not confirmed");
        return seen.toString();
    }

    private static void appendRow(StringBuilder seen, LoanServicing loan, int row) {
        for (int i = 0; i < 60; i++) {
            try {
                seen.append(' ').append(loan.stored(row, i));
            } catch (NoSuchElementException end) {
                seen.append(" end");
                return;
            }
        }
    }
}

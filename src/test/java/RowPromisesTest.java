import java.util.NoSuchElementException;

/** Promises 29 to 33: storeSchedule, copyRow, stored, snapshot, restore. */
final class RowPromisesTest {
    private static final Class<IllegalArgumentException> ARGUMENT = IllegalArgumentException.class;
    private static final Class<IllegalStateException> STATE = IllegalStateException.class;
    private static final Class<UnsupportedOperationException> UNSUPPORTED = UnsupportedOperationException.class;
    private static final Class<IndexOutOfBoundsException> INDEX = IndexOutOfBoundsException.class;
    private static final Class<NoSuchElementException> NONE = NoSuchElementException.class;

    public static void main(String[] args) {
        promise29And31();
        promise30();
        promise30Refused();
        promise32And33();
        promise33Commands();
        promise33Others();
        Check.finish("RowPromisesTest");
    }

    private static void row(LoanServicing x, int row, double... due) {
        for (int i = 0; i < due.length; i++) {
            Check.equal("stored(" + row + ", " + i + ")", x.stored(row, i), due[i]);
        }
        Check.refuses(x, NONE, "stored beyond the end", () -> x.stored(row, due.length));
        Check.refuses(x, NONE, "stored(" + row + ", -1)", () -> x.stored(row, -1));
    }

    private static void promise29And31() {
        LoanServicing x = new LoanServicing();
        Check.refuses(x, INDEX, "storeSchedule(-1, true)", () -> x.storeSchedule(-1, true));
        Check.refuses(x, INDEX, "storeSchedule(2, false)", () -> x.storeSchedule(2, false));
        Check.refuses(x, INDEX, "stored(-1, 0)", () -> x.stored(-1, 0));
        Check.refuses(x, INDEX, "stored(2, 0)", () -> x.stored(2, 0));
        Check.refuses(x, NONE, "stored(0, 0) before it was stored", () -> x.stored(0, 0));
        Check.equal("storeSchedule without a loan", x.storeSchedule(0, true), 0);
        row(x, 0);
        x.begin(100000, 1200, 3, 2);
        Check.equal("storeSchedule(0, true)", x.storeSchedule(0, true), 3);
        Check.equal("storeSchedule(1, false)", x.storeSchedule(1, false), 3);
        row(x, 0, 66997, 33664, 0);
        row(x, 1, 66997f / 100f, 33664f / 100f, 0);
        Check.yes("a float, not a double", x.stored(1, 0) != 669.97);
        x.pass(31);
        x.pay(20000);
        row(x, 0, 66997, 33664, 0);
        Check.equal("a shorter row", x.storeSchedule(0, true), 2);
        row(x, 0, 81000 + 810 - 34003, 0);
        Check.equal("no command", x.undo(), 2);
        LoanServicing y = new LoanServicing();
        y.begin(10000000, 2000, 60, 1);
        Check.equal("the longest row", y.storeSchedule(0, false), 60);
        Check.equal("its last element", y.stored(0, 59), 0);
    }

    private static void promise30() {
        LoanServicing x = new LoanServicing();
        x.begin(1000, 0, 4, 0);
        x.storeSchedule(0, true);
        x.begin(100, 0, 3, 0);
        x.storeSchedule(1, true);
        row(x, 0, 750, 500, 250, 0);
        row(x, 1, 66, 32, 0);
        Check.yes("no element, no change", !x.copyRow(0, 0));
        row(x, 1, 66, 32, 0);
        Check.yes("from 0 to 1", x.copyRow(0, 2));
        row(x, 1, 750, 500, 0);
        Check.yes("once more changes nothing", !x.copyRow(0, 2));
        Check.yes("from 1 to 0", x.copyRow(1, 3));
        row(x, 0, 750, 500, 0, 0);
        Check.yes("the rows are the same now", !x.copyRow(1, 3));
        Check.yes("and the other way", !x.copyRow(0, 3));
        x.storeSchedule(0, false);
        x.begin(1000, 0, 4, 0);
        x.storeSchedule(1, false);
        Check.yes("floats", x.copyRow(1, 1));
        row(x, 0, 7.5, 32f / 100f, 0);
        row(x, 1, 7.5, 5, 2.5, 0);
    }

    private static void promise30Refused() {
        LoanServicing x = new LoanServicing();
        Check.refuses(x, INDEX, "copyRow(-1, 0)", () -> x.copyRow(-1, 0) ? 1 : 0);
        Check.refuses(x, INDEX, "copyRow(2, -1)", () -> x.copyRow(2, -1) ? 1 : 0);
        Check.refuses(x, NONE, "copyRow of no rows", () -> x.copyRow(0, 0) ? 1 : 0);
        x.begin(1000, 0, 4, 0);
        x.storeSchedule(0, true);
        Check.refuses(x, NONE, "copyRow to no row", () -> x.copyRow(0, -1) ? 1 : 0);
        Check.refuses(x, NONE, "copyRow from no row", () -> x.copyRow(1, 0) ? 1 : 0);
        x.begin(1000, 0, 3, 0);
        x.storeSchedule(1, false);
        Check.refuses(x, UNSUPPORTED, "copyRow of other types", () -> x.copyRow(0, 1) ? 1 : 0);
        Check.refuses(x, UNSUPPORTED, "copyRow of other types and a bad count", () -> x.copyRow(1, -1) ? 1 : 0);
        x.storeSchedule(1, true);
        Check.refuses(x, ARGUMENT, "copyRow(0, 4)", () -> x.copyRow(0, 4) ? 1 : 0);
        Check.refuses(x, ARGUMENT, "copyRow(1, 4)", () -> x.copyRow(1, 4) ? 1 : 0);
        Check.refuses(x, ARGUMENT, "copyRow(0, -1)", () -> x.copyRow(0, -1) ? 1 : 0);
        Check.yes("copyRow(0, 3)", x.copyRow(0, 3));
    }

    private static void promise32And33() {
        LoanServicing x = new LoanServicing();
        Check.refuses(x, STATE, "restore of nothing", x::restore);
        Check.equal("snapshot without a loan", x.snapshot(), 0);
        x.begin(100000, 1200, 12, 0);
        x.set(3, 333);
        x.pass(50);
        Check.equal("restore without a loan", x.restore(), 0);
        Check.equal("no loan", x.condition(), 0);
        Check.equal("the rules", x.set(3, 444), 500);
        x.begin(100000, 1200, 12, 0);
        x.pass(60);
        x.setHoliday(2, true);
        Check.equal("snapshot", x.snapshot(), 60);
        Check.equal("is no command", x.undo(), 3);
        String without = Looks.atWhatUndoRestores(x);
        x.pay(3000);
        x.setRate(0);
        Check.equal("restore", x.restore(), 60);
        Check.yes("the holiday", x.setHoliday(2, true));
        x.undo();
        Check.yes("not as before the holiday", !Looks.atWhatUndoRestores(x).equals(without));
        String taken = Looks.atWhatUndoRestores(x);
        x.pass(500);
        x.begin(7, 7, 7, 1);
        Check.equal("the snapshot stays available", x.restore(), 60);
        Check.same("all is as it was", Looks.atWhatUndoRestores(x), taken);
        Check.refuses(x, STATE, "undo after restore", x::undo);
        x.pass(1);
        x.snapshot();
        x.pass(1);
        Check.equal("the later one replaces it", x.restore(), 61);
    }

    private static void promise33Commands() {
        LoanServicing x = new LoanServicing();
        x.begin(100000, 1200, 12, 0);
        x.pass(60);
        x.snapshot();
        x.undo();
        x.undo();
        x.begin(500, 100, 2, 1);
        x.pass(9);
        Check.yes("another loan", x.isConfirmed());
        x.restore();
        Check.yes("the commands are restored", x.isConfirmed());
        x.pass(30);
        Check.equal("those after it can be undone", x.undo(), 0);
        Check.refuses(x, STATE, "but not those before it", x::undo);
        Check.yes("confirmed still", x.isConfirmed());

        LoanServicing y = new LoanServicing();
        y.begin(100000, 1200, 12, 0);
        y.pay(2000);
        y.setRate(700);
        y.snapshot();
        y.undo();
        y.undo();
        y.set(0, 3);
        y.pass(5);
        y.restore();
        Check.equal("the rate of the snapshot", y.number(9), 700);
        Check.yes("commands of other kinds are restored", y.isConfirmed());
    }

    private static void promise33Others() {
        LoanServicing x = new LoanServicing();
        x.begin(1000, 0, 4, 0);
        x.storeSchedule(0, true);
        x.snapshot();
        x.begin(1000, 0, 2, 0);
        x.storeSchedule(0, true);
        x.append('d');
        x.restore();
        row(x, 0, 500, 0);
        Check.equal("the buffer stays", x.append('1'), 2);
        Check.equal("and works", x.execute(), 1);
        Check.equal("the day", x.date(0), 1);
    }
}

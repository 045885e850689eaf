/** Promises 25 to 28: ledgerSize, ledger, undo, isConfirmed. */
final class LedgerPromisesTest {
    private static final Class<IllegalStateException> STATE = IllegalStateException.class;
    private static final Class<IndexOutOfBoundsException> INDEX = IndexOutOfBoundsException.class;

    public static void main(String[] args) {
        promise25And26();
        promise26Latest();
        promise26NoZeros();
        promise27();
        promise27EachCommand();
        promise27Refused();
        promise28();
        promise28AfterUndoAndRestore();
        Check.finish("LedgerPromisesTest");
    }

    private static void type(LoanServicing x, String text) {
        for (char c : text.toCharArray()) {
            x.append(c);
        }
    }

    private static void ledger(LoanServicing x, int[]... due) {
        Check.equal("ledgerSize", x.ledgerSize(), due.length);
        for (int i = 0; i < due.length; i++) {
            for (int column = 0; column < 3; column++) {
                Check.equal("ledger(" + i + ", " + column + ")", x.ledger(i, column), due[i][column]);
            }
        }
    }

    private static void promise25And26() {
        LoanServicing x = new LoanServicing();
        x.begin(100000, 1200, 3, 2);
        ledger(x);
        x.set(4, 1);
        x.setHoliday(0, true);
        x.pass(31);
        ledger(x, new int[] {1, 31, 1000}, new int[] {6, 31, 1000});
        x.pass(40);
        x.waive(20);
        x.pay(5000);
        ledger(x, new int[] {1, 31, 1000}, new int[] {6, 31, 1000}, new int[] {1, 59, 1010}, new int[] {2, 59, 34003},
                new int[] {3, 70, 500}, new int[] {5, 71, 20}, new int[] {1, 71, 404}, new int[] {4, 71, 5000});
        Check.refuses(x, INDEX, "ledger(-1, 0)", () -> x.ledger(-1, 0));
        Check.refuses(x, INDEX, "ledger(8, 0)", () -> x.ledger(8, 0));
        Check.refuses(x, INDEX, "ledger(0, -1)", () -> x.ledger(0, -1));
        Check.refuses(x, INDEX, "ledger(0, 3)", () -> x.ledger(0, 3));
        LoanServicing none = new LoanServicing();
        Check.refuses(none, INDEX, "ledger without a loan", () -> none.ledger(0, 0));
        x.begin(1, 0, 1, 0);
        ledger(x);
        x.undo();
        Check.equal("the ledger of the first loan", x.ledgerSize(), 8);
    }

    private static void promise26Latest() {
        LoanServicing x = new LoanServicing();
        x.begin(100000, 0, 60, 0);
        for (int i = 1; i <= 60; i++) {
            x.pay(i);
            Check.equal("ledgerSize", x.ledgerSize(), i);
        }
        Check.equal("the oldest of 60", x.ledger(0, 2), 1);
        for (int i = 61; i <= 150; i++) {
            x.pay(i);
        }
        Check.equal("60 are kept", x.ledgerSize(), 60);
        for (int i = 0; i < 60; i++) {
            Check.equal("the latest 60", x.ledger(i, 2), 91 + i);
        }
        Check.yes("confirmed", x.isConfirmed());
        for (int i = 0; i < 8; i++) {
            x.undo();
        }
        Check.equal("entries that had gone come back", x.ledger(0, 2), 83);
        Check.equal("the latest one", x.ledger(59, 2), 142);
        Check.yes("confirmed after undo", x.isConfirmed());
    }

    private static void promise26NoZeros() {
        LoanServicing x = new LoanServicing();
        x.begin(100, 0, 2, 0);
        x.set(3, 0);
        x.set(4, 1);
        x.setHoliday(0, true);
        x.pass(31);
        ledger(x);
        x.pass(28);
        x.pass(11);
        x.pay(50);
        ledger(x, new int[] {2, 59, 50}, new int[] {4, 70, 50});
    }

    private static void promise27() {
        LoanServicing x = new LoanServicing();
        Check.refuses(x, STATE, "undo of nothing", x::undo);
        x.pass(3);
        Check.equal("undo", x.undo(), 0);
        Check.equal("the day", x.date(0), 0);
        Check.refuses(x, STATE, "undo once more", x::undo);
        for (int i = 1; i <= 20; i++) {
            x.pass(i);
        }
        Check.equal("the eighth last", x.undo(), 7);
        x.pass(100);
        for (int i = 7; i >= 0; i--) {
            Check.equal("undo", x.undo(), i);
        }
        Check.equal("only the latest 8", x.date(0), 210 - 20 - 19 - 18 - 17 - 16 - 15 - 14 - 13);
        Check.refuses(x, STATE, "the ninth", x::undo);
        x.pass(1);
        Check.equal("one again", x.undo(), 0);
    }

    private static void promise27EachCommand() {
        LoanServicing x = new LoanServicing();
        x.begin(100000, 1200, 12, 0);
        x.pass(50);
        x.snapshot();
        x.storeSchedule(0, true);
        Runnable[] commands = {() -> x.begin(5, 5, 5, 1), () -> x.pass(200), () -> x.pay(20000), () -> x.setRate(7),
            () -> x.setHoliday(3, true), () -> x.waive(77), () -> x.set(3, 9), () -> type(x, "d4;h3"), () -> x.set(4, 0),
            () -> x.setHoliday(3, false)};
        for (int i = 0; i < commands.length; i++) {
            String before = Looks.atWhatUndoRestores(x);
            int rule = x.set(3, 500);
            x.undo();
            commands[i].run();
            if (i == 7) {
                x.execute();
            }
            Check.equal("the command " + i + " can be undone", x.undo(), 2);
            Check.same("as before the command " + i, Looks.atWhatUndoRestores(x), before);
            Check.equal("the rule before the command " + i, x.set(3, 1), rule);
            x.undo();
        }
        double element = x.stored(0, 0);
        x.pay(5000);
        x.storeSchedule(0, true);
        double other = x.stored(0, 0);
        x.undo();
        Check.yes("undo leaves the rows", element != other && x.stored(0, 0) == other);
        type(x, "d1");
        x.pass(1);
        x.undo();
        Check.equal("undo leaves the buffer", x.append(';'), 3);
        x.pass(100);
        x.undo();
        Check.equal("undo leaves the snapshot", x.restore(), 50);
    }

    private static void promise27Refused() {
        LoanServicing x = new LoanServicing();
        x.begin(100, 0, 2, 0);
        Check.throwsOnly(IllegalArgumentException.class, "begin(0, 0, 0, 0)", () -> x.begin(0, 0, 0, 0));
        Check.throwsOnly(IllegalArgumentException.class, "pass(0)", () -> x.pass(0));
        Check.throwsOnly(UnsupportedOperationException.class, "pay(101)", () -> x.pay(101));
        Check.throwsOnly(STATE, "waive(1)", () -> x.waive(1));
        Check.throwsOnly(IllegalArgumentException.class, "setRate(-1)", () -> x.setRate(-1));
        Check.throwsOnly(IllegalArgumentException.class, "setHoliday(-1)", () -> x.setHoliday(-1, true) ? 1 : 0);
        Check.throwsOnly(IllegalArgumentException.class, "set(0, 9)", () -> x.set(0, 9));
        Check.equal("only begin was a command", x.undo(), 0);
        Check.equal("no loan again", x.condition(), 0);
    }

    private static void promise28() {
        LoanServicing x = new LoanServicing();
        Check.yes("without a loan", x.isConfirmed());
        x.set(1, 1);
        x.set(2, 3);
        x.pass(77);
        x.begin(123456, 789, 24, 2);
        Check.yes("a new loan", x.isConfirmed());
        x.set(3, 250);
        x.pass(60);
        Check.yes("after a late bill", x.isConfirmed());
        x.setHoliday(1, true);
        x.set(4, 1);
        x.pay(30000);
        x.setRate(1500);
        x.set(0, 4);
        x.pass(100);
        x.waive(10);
        x.setHoliday(0, true);
        x.setHoliday(0, false);
        type(x, "p777;d30;h2;r100;w5");
        x.execute();
        Check.yes("after all kinds of commands", x.isConfirmed());
        x.pass(999);
        Check.yes("after the last bill", x.isConfirmed());
        x.pay(x.number(3));
        Check.yes("when settled", x.isConfirmed());
        String before = Looks.at(x);
        x.isConfirmed();
        Check.same("isConfirmed changes nothing", Looks.at(x), before);
        x.begin(100, 0, 2, 0);
        Check.yes("the next loan", x.isConfirmed());
        x.undo();
        Check.yes("the loan before it", x.isConfirmed());
        Check.equal("is settled", x.condition(), 4);
    }

    private static void promise28AfterUndoAndRestore() {
        LoanServicing x = new LoanServicing();
        x.begin(50000, 1000, 12, 0);
        x.pass(40);
        x.snapshot();
        for (int i = 0; i < 5; i++) {
            x.pay(1000 + i);
            x.undo();
            x.undo();
            x.pass(50 + i);
            x.waive(5);
            Check.yes("after undo", x.isConfirmed());
            x.restore();
            Check.yes("after restore", x.isConfirmed());
            x.set(3, 90 + i);
            x.pass(20);
            x.setRate(300);
            Check.yes("after restore and more", x.isConfirmed());
            x.restore();
            x.pass(10);
        }
        x.undo();
        Check.equal("the day of the snapshot", x.date(0), 40);
    }
}

import java.util.NoSuchElementException;

/** Promises 21 to 24: append, execute, errorPosition, refusedCommand. */
final class TextPromisesTest {
    private static final Class<IllegalArgumentException> ARGUMENT = IllegalArgumentException.class;
    private static final Class<IllegalStateException> STATE = IllegalStateException.class;
    private static final Class<UnsupportedOperationException> UNSUPPORTED = UnsupportedOperationException.class;
    private static final Class<NoSuchElementException> NONE = NoSuchElementException.class;

    public static void main(String[] args) {
        promise21();
        promise22();
        promise22IsOneCommand();
        promise22Refused();
        promise23();
        promise24();
        Check.finish("TextPromisesTest");
    }

    private static void type(LoanServicing x, String text) {
        for (char c : text.toCharArray()) {
            x.append(c);
        }
    }

    private static void promise21() {
        LoanServicing x = new LoanServicing();
        Check.refuses(x, ARGUMENT, "append(31)", () -> x.append((char) 31));
        Check.refuses(x, ARGUMENT, "append(127)", () -> x.append((char) 127));
        Check.refuses(x, ARGUMENT, "append(0)", () -> x.append((char) 0));
        Check.refuses(x, ARGUMENT, "append(65535)", () -> x.append((char) 65535));
        for (int i = 1; i <= 60; i++) {
            Check.equal("append", x.append(i % 2 == 0 ? ' ' : '~'), i);
        }
        Check.refuses(x, STATE, "the character 61", () -> x.append('p'));
        Check.refuses(x, ARGUMENT, "the code 127 when full", () -> x.append((char) 127));
        Check.throwsOnly(ARGUMENT, "execute", x::execute);
        Check.equal("the buffer is empty afterwards", x.append('p'), 1);
    }

    private static void promise22() {
        LoanServicing x = new LoanServicing();
        x.begin(1000, 0, 10, 0);
        type(x, "d31;p100;r1200;h0;d11");
        Check.equal("the number of commands", x.execute(), 5);
        Check.equal("the buffer is empty", x.append(' '), 1);
        Check.throwsOnly(ARGUMENT, "a blank", x::execute);
        Check.equal("the day", x.date(0), 42);
        Check.equal("the payment", x.total(0), 100);
        Check.equal("the rate", x.number(9), 1200);
        Check.yes("the holiday", x.setHoliday(0, true));
        type(x, "d17;d42");
        Check.equal("days", x.execute(), 2);
        Check.equal("a late bill", x.number(2), 500);
        type(x, "w120");
        Check.equal("a waiver", x.execute(), 1);
        Check.equal("the fees", x.number(2), 380);
        type(x, "d1;d1;d1;d1;d1;d1;d1;d1;d1;d1;d1;d1;d1;d1;d1;d1;d1;d1;d1;d1");
        Check.equal("as many as there is room for", x.execute(), 20);
        Check.equal("the day then", x.date(0), 121);
        LoanServicing y = new LoanServicing();
        type(y, "d1000;d1000;d1000;d1000;d1000;d1000;d1000;d1000");
        Check.equal("to the last day", y.execute(), 8);
        Check.equal("the last day", y.date(0), 8000);
    }

    private static void promise22IsOneCommand() {
        LoanServicing x = new LoanServicing();
        x.begin(1000, 0, 10, 0);
        x.pass(31);
        String before = Looks.atWhatUndoRestores(x);
        type(x, "p100;d100;r5");
        x.execute();
        Check.yes("confirmed", x.isConfirmed());
        Check.equal("undo of the whole text", x.undo(), 2);
        Check.same("as before the text", Looks.atWhatUndoRestores(x), before);
    }

    private static void promise22Refused() {
        LoanServicing x = new LoanServicing();
        x.begin(1000, 0, 10, 0);
        String before = Looks.atWhatUndoRestores(x);
        type(x, "p100;d100;r2001");
        Check.throwsOnly(UNSUPPORTED, "execute with a bad rate", x::execute);
        Check.same("none is carried out", Looks.atWhatUndoRestores(x), before);
        Check.equal("the buffer is empty", x.append('d'), 1);
        Check.throwsOnly(ARGUMENT, "execute of half a command", x::execute);
        Check.same("nothing is carried out", Looks.atWhatUndoRestores(x), before);
        Check.equal("no command was added", x.undo(), 0);
    }

    private static void malformed(String text, int position) {
        LoanServicing x = new LoanServicing();
        x.begin(1000, 0, 10, 0);
        type(x, text);
        String before = Looks.atWhatUndoRestores(x);
        Check.throwsOnly(ARGUMENT, "execute of \"" + text + "\"", x::execute);
        Check.equal("the error position of \"" + text + "\"", x.errorPosition(), position);
        Check.same("nothing is carried out of \"" + text + "\"", Looks.atWhatUndoRestores(x), before);
        Check.throwsOnly(NONE, "refusedCommand after \"" + text + "\"", () -> x.refusedCommand(false));
    }

    private static void promise23() {
        LoanServicing x = new LoanServicing();
        Check.refuses(x, NONE, "errorPosition of nothing", x::errorPosition);
        malformed("", 0);
        malformed(" ", 0);
        malformed(";", 0);
        malformed("5", 0);
        malformed("p", 1);
        malformed("p;", 1);
        malformed("pp", 1);
        malformed("p5;", 3);
        malformed("p5;;", 3);
        malformed("p5d1", 2);
        malformed("p 5", 1);
        malformed("p05", 2);
        malformed("d00", 2);
        malformed("d1;p0123", 5);
        malformed("p123456789", 9);
        malformed("d1;p12345678;x1", 13);
        malformed("D1", 0);
        malformed("d1 ", 2);
        malformed("d1;h2;w", 7);
        malformed("d-1", 1);
        malformed("d1:", 2);
        malformed("d1/", 2);
        malformed("d1;".repeat(20), 60);
        type(x, "d1;q");
        Check.throwsOnly(ARGUMENT, "execute", x::execute);
        type(x, "d1");
        Check.equal("a good text", x.execute(), 1);
        Check.equal("the last malformed one is still told", x.errorPosition(), 3);
        type(x, "p1");
        Check.throwsOnly(UNSUPPORTED, "a refused one", x::execute);
        Check.equal("still", x.errorPosition(), 3);
        type(x, "p");
        Check.throwsOnly(ARGUMENT, "another malformed one", x::execute);
        Check.equal("the last one", x.errorPosition(), 1);
        x.undo();
        Check.equal("undo leaves it", x.errorPosition(), 1);
        x.snapshot();
        type(x, "wx");
        Check.throwsOnly(ARGUMENT, "a third one", x::execute);
        type(x, "w55;");
        x.restore();
        Check.throwsOnly(ARGUMENT, "restore leaves the buffer", x::execute);
        Check.equal("and what it leads to", x.errorPosition(), 4);
    }

    private static void refused(LoanServicing x, String text, int number, int reason) {
        type(x, text);
        String before = Looks.atWhatUndoRestores(x);
        Check.throwsOnly(UNSUPPORTED, "execute of \"" + text + "\"", x::execute);
        Check.equal("the refused command of \"" + text + "\"", x.refusedCommand(false), number);
        Check.equal("why \"" + text + "\" was refused", x.refusedCommand(true), reason);
        Check.same("none of \"" + text + "\" is carried out", Looks.atWhatUndoRestores(x), before);
    }

    private static void promise24() {
        LoanServicing x = new LoanServicing();
        Check.refuses(x, NONE, "refusedCommand(false) of nothing", () -> x.refusedCommand(false));
        Check.refuses(x, NONE, "refusedCommand(true) of nothing", () -> x.refusedCommand(true));
        refused(x, "p1", 0, 2);
        refused(x, "r1", 0, 2);
        refused(x, "h1", 0, 2);
        refused(x, "w1", 0, 2);
        refused(x, "d1;d1001", 1, 1);
        x.begin(1000, 0, 10, 0);
        refused(x, "p0", 0, 1);
        refused(x, "p1001", 0, 3);
        refused(x, "p900;p101", 1, 3);
        refused(x, "p1000;p1", 1, 2);
        refused(x, "r2001", 0, 1);
        refused(x, "r99999999", 0, 1);
        refused(x, "h23;h24", 1, 1);
        refused(x, "d42;w500;w1", 2, 2);
        refused(x, "w0", 0, 1);
        refused(x, "d0", 0, 1);
        refused(x, "d1000;d1000;d1000;d1000;d1000;d1000;d1000;d1000;d1", 8, 2);
        type(x, "d1");
        Check.equal("a good text", x.execute(), 1);
        Check.equal("the last refused one is still told", x.refusedCommand(false), 8);
        type(x, "d");
        Check.throwsOnly(ARGUMENT, "a malformed one", x::execute);
        Check.equal("still", x.refusedCommand(true), 2);
        x.undo();
        Check.equal("undo leaves it", x.refusedCommand(false), 8);
    }
}

import java.util.ArrayList;
import java.util.LinkedHashMap;
import java.util.List;
import java.util.Map;

/**
 * In each of the states that the document tells apart, every call with the least and the greatest value of each
 * parameter and with the ones just outside: the answer, and all that can be seen after it and after its undo, must be
 * those of SlowLoan; and a refused call must leave the object as one that was not called, to the last undo.
 */
final class EdgesTest {
    private static final int MIN = Integer.MIN_VALUE;
    private static final int MAX = Integer.MAX_VALUE;
    private static final String LAST_BUT_ONE = "7*pass 1000";

    public static void main(String[] args) throws ReflectiveOperationException {
        for (Map.Entry<String, String[]> state : states().entrySet()) {
            inState(state.getKey(), state.getValue());
        }
        Check.finish("EdgesTest");
    }

    private static Map<String, String[]> states() {
        Map<String, String[]> all = new LinkedHashMap<>();
        statesOfLoans(all);
        statesOfDays(all);
        statesOfText(all);
        statesOfTheRest(all);
        return all;
    }

    private static void put(Map<String, String[]> all, String name, String... lines) {
        all.put(name, lines);
    }

    private static void statesOfLoans(Map<String, String[]> all) {
        put(all, "a new object");
        put(all, "a new loan", "begin 100000 1200 3 2");
        put(all, "the smallest loan", "begin 1 0 1 0");
        put(all, "a cent in 60 installments", "begin 1 2000 60 0");
        put(all, "the greatest loan", "begin 10000000 2000 60 1", "3*pass 9");
        put(all, "mode 1, capitalizing", "set 1 1", "set 4 1", "set 0 5", "begin 5000 2000 12 0", "setHoliday 0 true",
                "setHoliday 1 true", "pass 40", "pay 999");
        put(all, "half a cent", "begin 150 1200 2 2", "pass 10");
        put(all, "less than no units", "begin 150 1200 2 2", "pass 10", "pay 1");
        put(all, "a bill", "begin 1000 1000 10 0", "pass 31");
        put(all, "the last day of grace", "begin 1000 1000 10 0", "pass 41");
        put(all, "a late bill", "begin 1000 1000 10 0", "pass 42");
        put(all, "a late bill, half paid", "begin 1000 1000 10 0", "pass 42", "pay 60");
        put(all, "the greatest grace and fee", "set 2 30", "set 3 100000", "begin 1000 0 2 1", "pass 61");
        put(all, "the least grace and fee", "set 2 0", "set 3 0", "begin 1000 0 2 1", "pass 31");
        put(all, "fees alone, an installment remains", "set 0 3", "begin 300 0 3 0", "pass 42", "pay 300");
        put(all, "fees alone, none remain", "set 0 3", "begin 300 0 1 0", "pass 42", "pay 300");
        put(all, "none remain", "begin 1000 1000 1 2", "pass 31");
        put(all, "none remain, late", "begin 1000 1000 1 2", "pass 90");
        put(all, "settled by a payment", "begin 300 0 3 0", "pass 70", "pay 1300");
        put(all, "settled by a waiver", "set 0 3", "begin 300 0 3 0", "pass 42", "pay 300", "waive 500");
        put(all, "60 remain again", "begin 6100 0 60 0", "pass 59", "setRate 2000");
        put(all, "24 holidays", holidays());
    }

    private static String[] holidays() {
        List<String> lines = new ArrayList<>();
        lines.add("begin 1200 500 3 1");
        for (int after = 0; after < 24; after++) {
            lines.add("setHoliday " + after + " true");
        }
        return lines.toArray(new String[0]);
    }

    private static void statesOfDays(Map<String, String[]> all) {
        put(all, "begun on January 31", "pass 30", "begin 1000 500 14 2", "pass 27");
        put(all, "begun on February 28", "pass 58", "begin 1000 500 3 2");
        put(all, "begun on December 31", "pass 364", "begin 1000 500 3 0", "pass 1");
        put(all, "the last day but one", LAST_BUT_ONE, "pass 990", "begin 1000 500 3 0", "pass 9");
        put(all, "the last day", LAST_BUT_ONE, "pass 900", "begin 1000 500 12 0", "pass 100");
        put(all, "a loan begun on the last day", "8*pass 1000", "begin 1000 2000 60 2");
    }

    private static void statesOfText(Map<String, String[]> all) {
        String sixty = "d1;d1;d1;d1;d1;d1;d1;d1;d1;d1;d1;d1;d1;d1;d1;d1;d1;d1;d1;d10";
        String loan = "begin 1000 0 10 0";
        put(all, "59 characters", loan, "type " + sixty.substring(0, 59));
        put(all, "60 characters", loan, "type " + sixty);
        put(all, "60 characters that are malformed", loan, "type " + sixty.replace("d10", "d1;"));
        put(all, "20 commands", loan, "type p0;" + sixty.substring(0, 56));
        put(all, "half a command", loan, "type p1;p");
        put(all, "a malformed text that would be refused, too", loan, "type p0;p");
        put(all, "8 digits", loan, "type d1;p12345678");
        put(all, "9 digits", loan, "type d1;p123456789");
        put(all, "a leading zero", loan, "type d01");
        put(all, "after a malformed text", loan, "type d1;x", "execute", "type d2");
        put(all, "after a refused text", loan, "type d1;p1001", "execute", "type p5;w1");
        put(all, "a refusal for the argument", loan, "type p1000;p0");
        put(all, "a refusal for the state", loan, "type p1000;p1");
        put(all, "a refusal for the amount", loan, "type p999;p2");
        put(all, "all kinds of commands", loan, "pass 42", "type d1;p7;r9;h23;w500");
    }

    private static void statesOfTheRest(Map<String, String[]> all) {
        put(all, "7 commands", "begin 90000 900 9 0", "6*pass 10");
        put(all, "8 commands", "begin 90000 900 9 0", "7*pass 10");
        put(all, "9 commands", "begin 90000 900 9 0", "8*pass 10");
        put(all, "9 commands, 3 of them undone", "begin 90000 900 9 0", "8*pass 10", "3*undo");
        put(all, "all commands undone", "begin 90000 900 9 0", "8*pass 10", "8*undo");
        put(all, "59 entries", "begin 90000 0 9 0", "59*pay 5");
        put(all, "60 entries", "begin 90000 0 9 0", "60*pay 5");
        put(all, "61 entries", "begin 90000 0 9 0", "pay 7", "60*pay 5");
        put(all, "a row", "begin 1000 100 5 0", "storeSchedule 1 true");
        put(all, "a row without elements", "storeSchedule 0 true", "begin 1000 100 5 0", "storeSchedule 1 true");
        put(all, "rows of other types", "begin 1000 100 5 0", "storeSchedule 0 true", "storeSchedule 1 false");
        put(all, "rows of other lengths", "begin 1000 100 5 0", "storeSchedule 0 true", "begin 10000 100 60 0",
                "storeSchedule 1 true");
        put(all, "the same rows of floats", "begin 1000 100 60 0", "storeSchedule 0 false", "storeSchedule 1 false");
        put(all, "a snapshot without a loan", "snapshot", "begin 1000 100 5 0", "pass 31");
        put(all, "a snapshot of a loan", "begin 1000 100 5 0", "setHoliday 1 true", "pass 31", "snapshot", "pass 60", "pay 9");
        put(all, "restored", "begin 1000 100 5 0", "set 3 70", "pass 31", "snapshot", "pass 60", "undo", "undo", "restore");
        put(all, "restored, and a command", "begin 1000 100 5 0", "pass 31", "snapshot", "pass 60", "restore", "pass 11");
    }

    private static void inState(String name, String[] lines) throws ReflectiveOperationException {
        SlowLoan first = new SlowLoan();
        Calls.run(first, lines);
        LoanServicing uncalled = new LoanServicing();
        Calls.run(uncalled, lines);
        String toTheEnd = traceToTheEnd(uncalled);
        for (String call : calls(first)) {
            String when = name + ": " + call;
            LoanServicing loan = new LoanServicing();
            SlowLoan slow = new SlowLoan();
            Calls.run(loan, lines);
            Calls.run(slow, lines);
            String answer = Calls.answer(loan, call);
            Check.same(when, answer, Calls.answer(slow, call));
            Check.same("what is seen after " + when, seen(loan), seen(slow));
            if (Calls.isException(answer) && !call.equals("execute")) {
                Check.same("all that follows the refused " + when, traceToTheEnd(loan), toTheEnd);
            } else {
                Check.same("undo after " + when, Calls.answer(loan, "undo"), Calls.answer(slow, "undo"));
                Check.same("what is seen when undone, " + when, seen(loan), seen(slow));
            }
        }
    }

    /** What shows the buffer, the snapshot and each state that can be undone; the object is used up by it. */
    private static String traceToTheEnd(LoanServicing loan) throws ReflectiveOperationException {
        StringBuilder trace = new StringBuilder(seen(loan));
        trace.append(Calls.answer(loan, "append 53")).append(Calls.answer(loan, "execute")).append(seen(loan));
        for (int i = 0; i < 10; i++) {
            trace.append(Calls.answer(loan, "undo")).append(seen(loan));
        }
        trace.append(Calls.answer(loan, "restore")).append(seen(loan)).append(Calls.answer(loan, "undo"));
        return trace.toString();
    }

    private static String seen(Object loan) throws ReflectiveOperationException {
        StringBuilder text = new StringBuilder();
        for (String line : new String[] {"date 0", "accruedUnits", "condition", "interestShare", "progress",
            "scheduleLength", "isConfirmed", "errorPosition", "refusedCommand true", "refusedCommand false"}) {
            text.append(line).append(' ').append(Calls.answer(loan, line)).append('\n');
        }
        int length = Integer.parseInt(Calls.answer(loan, "scheduleLength"));
        int size = Integer.parseInt(Calls.answer(loan, "ledgerSize"));
        appendAll(text, loan, "number", 10);
        appendAll(text, loan, "total", 8);
        appendAll(text, loan, "schedule 0", 5);
        appendAll(text, loan, "schedule " + (length - 1), 5);
        appendAll(text, loan, "stored 0", 5);
        appendAll(text, loan, "stored 1", 5);
        for (int i = 0; i < size; i++) {
            appendAll(text, loan, "ledger " + i, 3);
        }
        return text.toString();
    }

    private static void appendAll(StringBuilder text, Object loan, String call, int count) throws ReflectiveOperationException {
        text.append(call);
        for (int i = 0; i < count; i++) {
            text.append(' ').append(Calls.answer(loan, call + " " + i));
        }
        text.append('\n');
    }

    private static List<String> calls(SlowLoan slow) {
        List<String> lines = new ArrayList<>();
        addBegins(lines);
        addPayments(lines, slow);
        int left = 8000 - slow.date(0);
        add(lines, "pass", "", MIN, -1, 0, 1, left, left + 1, 1000, 1001, MAX);
        add(lines, "date", "", MIN, -1, 0, 1, 2, 3, 4, MAX);
        for (int rule = -1; rule <= 5; rule++) {
            int[] most = {MAX, 5, 1, 30, 100000, 1, 0};
            add(lines, "set " + rule, "", MIN, -1, 0, most[rule + 1], most[rule + 1] + 1);
        }
        add(lines, "setRate", "", MIN, -1, 0, slow.number(9), 2000, 2001, MAX);
        add(lines, "setHoliday", " true", MIN, -1, 0, 1, 23, 24, MAX);
        add(lines, "setHoliday", " false", MIN, -1, 0, 1, 23, 24, MAX);
        add(lines, "number", "", MIN, -1, 0, 9, 10, MAX);
        add(lines, "total", "", MIN, -1, 0, 7, 8, MAX);
        add(lines, "installmentFor", "", MIN, -1, 0, 1, 2, 60, 61, MAX);
        add(lines, "append", "", 0, 31, 32, 126, 127, 65535);
        addTables(lines, slow);
        for (String line : new String[] {"execute", "undo", "snapshot", "restore"}) {
            lines.add(line);
        }
        return lines;
    }

    private static void add(List<String> lines, String before, String after, int... values) {
        for (int value : values) {
            lines.add(before + " " + value + after);
        }
    }

    private static void addBegins(List<String> lines) {
        add(lines, "begin", " 0 1 0", MIN, -1, 0, 1, 10000000, 10000001, MAX);
        add(lines, "begin 100", " 7 1", MIN, -1, 0, 2000, 2001, MAX);
        add(lines, "begin 100 200", " 2", MIN, -1, 0, 1, 60, 61, MAX);
        add(lines, "begin 100 200 3", "", MIN, -1, 0, 1, 2, 3, MAX);
        lines.add("begin 0 2001 61 3");
        int[] days = {-1, 0, 30, 58, 59, 364, 365, 7999, 8000, 8001};
        for (int from : days) {
            for (int to : days) {
                lines.add("countedDays " + from + " " + to + " 2");
            }
        }
        add(lines, "countedDays 5 70", "", MIN, -1, 0, 1, 2, 3, MAX);
    }

    private static void addPayments(List<String> lines, SlowLoan slow) {
        int debt = slow.number(3);
        int unpaid = slow.number(7);
        int fees = slow.number(2);
        int[] amounts = {MIN, -1, 0, 1, unpaid, unpaid + 1, debt - 1, debt, debt + 1, MAX};
        add(lines, "pay", "", amounts);
        for (int amount : amounts) {
            add(lines, "explain " + amount, "", MIN, -1, 0, 1, 2, 3, 4, 5, 6, MAX);
        }
        add(lines, "waive", "", MIN, -1, 0, 1, fees - 1, fees, fees + 1, MAX);
    }

    private static void addTables(List<String> lines, SlowLoan slow) {
        int length = slow.scheduleLength();
        int size = slow.ledgerSize();
        for (int index : new int[] {MIN, -1, 0, length - 1, length, MAX}) {
            add(lines, "schedule " + index, "", MIN, -1, 0, 4, 5, MAX);
        }
        for (int index : new int[] {MIN, -1, 0, size - 1, size, 59, 60, MAX}) {
            add(lines, "ledger " + index, "", MIN, -1, 0, 2, 3, MAX);
        }
        for (int row : new int[] {MIN, -1, 0, 1, 2, MAX}) {
            lines.add("storeSchedule " + row + " true");
            lines.add("storeSchedule " + row + " false");
            add(lines, "copyRow " + row, "", MIN, -1, 0, 1, 4, 5, 6, 60, 61, MAX);
            add(lines, "stored " + row, "", MIN, -1, 0, 4, 5, 59, 60, MAX);
        }
    }
}

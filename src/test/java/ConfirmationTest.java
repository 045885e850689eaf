import java.lang.reflect.Array;
import java.lang.reflect.Field;
import java.lang.reflect.Modifier;
import java.util.Set;

/**
 * Promise 28 from the inside: no run of calls makes isConfirmed answer false, so each number of the present state, of
 * the ledger and of the commands is made wrong by hand, one at a time; isConfirmed must notice it, and must answer
 * true again when the number is put back.
 */
final class ConfirmationTest {
    /* What the second computation starts from, and is not compared with. */
    private static final Set<String> STARTS_FROM = Set.of("exists", "convention", "firstDay", "firstPrincipal", "firstRate",
            "firstInstallments", "firstRules", "historyStart", "historyEnd");

    private static int made;

    public static void main(String[] args) throws ReflectiveOperationException {
        inState("a new loan", "begin 100000 1200 3 2");
        inState("late bills", "set 2 5", "begin 100000 1200 12 2", "set 3 70", "pass 40", "pay 9000", "pass 85",
                "setHoliday 2 true", "set 0 3", "set 1 1", "set 4 1", "setRate 900", "pass 3", "waive 11", "setHoliday 0 true",
                "pass 40");
        inState("a full ledger", "begin 90000 900 9 0", "set 0 4", "pass 100", "pay 30001", "70*pay 5", "pass 7");
        inState("after the last bill", "begin 5000 2000 2 1", "pass 100");
        inState("settled", "begin 5000 2000 2 1", "pass 100", "pay 1000", "waive 7", "pay 5143");
        inState("after undo", "begin 5000 2000 7 1", "pass 50", "pay 20", "pass 9", "undo", "undo", "pass 3");
        inState("after restore", "begin 5000 2000 7 1", "pass 50", "snapshot", "begin 7 7 7 0", "pay 2", "restore", "pass 3");
        inState("after a text", "begin 5000 2000 7 1", "type d42;p60;r700;h2;w3", "execute");
        Check.yes("many numbers were made wrong", made > 500);
        Check.finish("ConfirmationTest");
    }

    private static void inState(String name, String... lines) throws ReflectiveOperationException {
        LoanServicing loan = new LoanServicing();
        Calls.run(loan, lines);
        Check.yes(name + " is confirmed", loan.isConfirmed());
        Object now = valueOf(loan, "now");
        everyNumber(loan, name, now);
        commands(loan, name, valueOf(loan, "history"), now);
    }

    private static void everyNumber(LoanServicing loan, String name, Object owner) throws ReflectiveOperationException {
        for (Field field : owner.getClass().getDeclaredFields()) {
            if (Modifier.isStatic(field.getModifiers()) || STARTS_FROM.contains(field.getName())
                    || isStartOfNothing(owner, field.getName())) {
                continue;
            }
            field.setAccessible(true);
            String what = name + ", wrong " + field.getName();
            if (field.getType().isArray()) {
                elements(loan, what, owner, field.get(owner));
            } else if (field.getType().isPrimitive()) {
                number(loan, what, owner, field);
            } else {
                everyNumber(loan, name, field.get(owner));
            }
        }
    }

    private static boolean isStartOfNothing(Object owner, String name) throws ReflectiveOperationException {
        return name.equals("start") && (int) valueOf(owner, "size") == 0;
    }

    private static void number(LoanServicing loan, String what, Object owner, Field field) throws ReflectiveOperationException {
        boolean isLong = field.getType() == long.class;
        long right = isLong ? field.getLong(owner) : field.getInt(owner);
        for (long wrong : new long[] {right - 1, right + 1}) {
            put(field, owner, isLong, wrong);
            noticed(loan, what);
            put(field, owner, isLong, right);
        }
        Check.yes(what + " put back", loan.isConfirmed());
    }

    private static void put(Field field, Object owner, boolean isLong, long value) throws ReflectiveOperationException {
        if (isLong) {
            field.setLong(owner, value);
        } else {
            field.setInt(owner, (int) value);
        }
    }

    private static void elements(LoanServicing loan, String what, Object owner, Object array)
            throws ReflectiveOperationException {
        for (int i = firstUsed(owner); i < usedEnd(owner, Array.getLength(array)); i++) {
            element(loan, what + " " + i, array, i);
        }
    }

    private static void element(LoanServicing loan, String what, Object array, int index) {
        boolean isLong = array.getClass().getComponentType() == long.class;
        long right = Array.getLong(array, index);
        putElement(array, index, isLong, right + 1);
        noticed(loan, what);
        putElement(array, index, isLong, right);
        Check.yes(what + " put back", loan.isConfirmed());
    }

    private static void putElement(Object array, int index, boolean isLong, long value) {
        if (isLong) {
            Array.setLong(array, index, value);
        } else {
            Array.setInt(array, index, (int) value);
        }
    }

    /* The bills that are paid, and the places of the ledger and of the bills that are free, tell nothing. */
    private static int firstUsed(Object owner) throws ReflectiveOperationException {
        return owner.getClass().getSimpleName().equals("Bills") ? (int) valueOf(owner, "paidEnd") : 0;
    }

    private static int usedEnd(Object owner, int length) throws ReflectiveOperationException {
        switch (owner.getClass().getSimpleName()) {
            case "Bills":
                return (int) valueOf(owner, "count");
            case "Ledger":
                return (int) valueOf(owner, "size");
            default:
                return length;
        }
    }

    /** "by carrying out all commands since then": each of them is needed, as it was given */
    private static void commands(LoanServicing loan, String name, Object history, Object now)
            throws ReflectiveOperationException {
        Object values = valueOf(history, "values");
        for (int i = (int) valueOf(now, "historyStart"); i < (int) valueOf(now, "historyEnd"); i++) {
            element(loan, name + ", the command " + i, values, i);
        }
    }

    private static Object valueOf(Object owner, String name) throws ReflectiveOperationException {
        Field field = owner.getClass().getDeclaredField(name);
        field.setAccessible(true);
        return field.get(owner);
    }

    private static void noticed(LoanServicing loan, String what) {
        made++;
        Check.yes(what + " is noticed", !loan.isConfirmed());
    }
}

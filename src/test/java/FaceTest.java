import java.io.IOException;
import java.lang.reflect.Constructor;
import java.lang.reflect.Field;
import java.lang.reflect.Method;
import java.lang.reflect.Modifier;
import java.nio.charset.StandardCharsets;
import java.nio.file.Files;
import java.nio.file.Path;
import java.util.HashSet;
import java.util.Set;
import java.util.TreeSet;

/** The public face of the document and nothing beside it, and the rules of the language that a look can tell. */
final class FaceTest {
    private static final Path SOURCE = Path.of("src/main/java/LoanServicing.java");
    private static final String[] FACE = {
        "int begin(int int int int) IllegalArgumentException",
        "int pass(int) IllegalArgumentException IllegalStateException",
        "int date(int) IllegalArgumentException",
        "int countedDays(int int int) IllegalArgumentException",
        "int set(int int) IndexOutOfBoundsException IllegalArgumentException",
        "int setRate(int) IllegalArgumentException IllegalStateException",
        "boolean setHoliday(int boolean) IllegalArgumentException IllegalStateException",
        "int pay(int) IllegalArgumentException IllegalStateException UnsupportedOperationException",
        "int waive(int) IllegalArgumentException IllegalStateException",
        "int explain(int int) IllegalArgumentException IllegalStateException UnsupportedOperationException",
        "int number(int) IllegalArgumentException",
        "long accruedUnits()",
        "int total(int) IllegalArgumentException",
        "int condition()",
        "double interestShare() ArithmeticException",
        "float progress() IllegalStateException",
        "int scheduleLength()",
        "int schedule(int int) IndexOutOfBoundsException IllegalArgumentException",
        "int installmentFor(int) IllegalArgumentException IllegalStateException",
        "int append(char) IllegalArgumentException IllegalStateException",
        "int execute() IllegalArgumentException UnsupportedOperationException",
        "int errorPosition() NoSuchElementException",
        "int refusedCommand(boolean) NoSuchElementException",
        "int ledgerSize()",
        "int ledger(int int) IndexOutOfBoundsException",
        "int undo() IllegalStateException",
        "boolean isConfirmed()",
        "int storeSchedule(int boolean) IndexOutOfBoundsException",
        "boolean copyRow(int int) IndexOutOfBoundsException NoSuchElementException UnsupportedOperationException"
            + " IllegalArgumentException",
        "double stored(int int) IndexOutOfBoundsException NoSuchElementException",
        "int snapshot()",
        "int restore() IllegalStateException"};

    public static void main(String[] args) throws IOException {
        theFace();
        theClassesInside();
        theText();
        Check.finish("FaceTest");
    }

    private static String signature(Method method) {
        StringBuilder text = new StringBuilder(method.getReturnType().getSimpleName());
        text.append(' ').append(method.getName()).append('(');
        for (Class<?> type : method.getParameterTypes()) {
            text.append(text.charAt(text.length() - 1) == '(' ? "" : " ").append(type.getSimpleName());
        }
        text.append(')');
        for (Class<?> type : method.getExceptionTypes()) {
            text.append(' ').append(type.getSimpleName());
        }
        return text.toString();
    }

    private static void theFace() {
        Class<?> face = LoanServicing.class;
        Check.yes("public and final", face.getModifiers() == (Modifier.PUBLIC | Modifier.FINAL));
        Set<String> open = new TreeSet<>();
        Set<String> names = new HashSet<>();
        for (Method method : face.getDeclaredMethods()) {
            if (!Modifier.isPrivate(method.getModifiers())) {
                open.add(signature(method));
                names.add(method.getName());
                Check.yes(method.getName() + " is public, of the object", method.getModifiers() == Modifier.PUBLIC);
            }
        }
        Check.same("the methods", open.toString(), new TreeSet<>(Set.of(FACE)).toString());
        for (Method method : face.getDeclaredMethods()) {
            boolean isHidden = Modifier.isPrivate(method.getModifiers());
            Check.yes(method.getName() + " private and public", !isHidden || !names.contains(method.getName()));
        }
        Constructor<?>[] constructors = face.getDeclaredConstructors();
        Check.equal("the constructors", constructors.length, 1);
        Check.equal("its parameters", constructors[0].getParameterCount(), 0);
        Check.yes("it is public", constructors[0].getModifiers() == Modifier.PUBLIC);
        for (Field field : face.getDeclaredFields()) {
            int modifiers = field.getModifiers();
            Check.yes(field.getName() + " is private", Modifier.isPrivate(modifiers));
            Check.yes(field.getName() + " is final if static", !Modifier.isStatic(modifiers) || Modifier.isFinal(modifiers));
        }
    }

    private static void theClassesInside() {
        Class<?>[] classes = LoanServicing.class.getDeclaredClasses();
        Check.yes("some twelve classes at most", classes.length < 12);
        for (Class<?> inside : classes) {
            Check.yes(inside.getName() + " is static", Modifier.isStatic(inside.getModifiers()));
            Check.yes(inside.getName() + " is private", Modifier.isPrivate(inside.getModifiers()));
            int fields = 0;
            for (Field field : inside.getDeclaredFields()) {
                boolean isStatic = Modifier.isStatic(field.getModifiers());
                fields += isStatic ? 0 : 1;
                Check.yes(field.getName() + " is final if static", !isStatic || Modifier.isFinal(field.getModifiers()));
            }
            Check.yes(inside.getName() + " has some twenty fields at most", fields <= 20);
            for (Method method : inside.getDeclaredMethods()) {
                Check.yes(method.getName() + " has at most seven parameters", method.getParameterCount() <= 7);
            }
        }
    }

    private static void theText() throws IOException {
        String text = new String(Files.readAllBytes(SOURCE), StandardCharsets.ISO_8859_1);
        String code = text.replaceAll("(?s)/\\*.*?\\*/", "").replaceAll("//[^\n]*", "");
        String[] outside = {"->", "::", "catch", "finally", "try", "synchronized", "assert", "static {", "Exact(", "instanceof",
            "package", "\"", "Thread", "Random", "currentTime", "nanoTime", "Object", "Double.", "Float.", "protected", "while",
            "new int[]", "lambda", "var "};
        for (String sign : outside) {
            Check.yes("no " + sign + " in the code", !code.contains(sign));
        }
        String rest = code.replace("import java.util.NoSuchElementException;", "").replace("System.arraycopy(", "");
        Check.yes("no other import", !rest.contains("import"));
        Check.yes("nothing else of the system", !rest.contains("System"));
        boolean isPlain = true;
        for (char c : text.toCharArray()) {
            isPlain = isPlain && c < 127;
        }
        Check.yes("signs 1 to 127 alone", isPlain);
        int inMethod = 0;
        for (String line : text.split("\n")) {
            Check.yes("a line of at most 120 characters", line.length() <= 120);
            boolean isEnd = line.equals("    }") || line.equals("        }");
            inMethod = line.isEmpty() || isEnd ? 0 : inMethod + 1;
            Check.yes("short methods", inMethod <= 60);
        }
    }
}

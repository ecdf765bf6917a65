import java.io.IOException;
import java.lang.reflect.Constructor;
import java.lang.reflect.Field;
import java.lang.reflect.Method;
import java.lang.reflect.Modifier;
import java.nio.file.Files;
import java.nio.file.Path;
import java.util.Arrays;
import java.util.Set;
import java.util.TreeSet;

/** The class shows the document's face and nothing else, and its source keeps from what LANGUAGE.md rules out. */
public final class FaceTest {
    private static final String[] METHODS = {
        "int setFund(int,int,int) IllegalArgumentException IllegalStateException",
        "void setGrade(int,int,int) IndexOutOfBoundsException IllegalArgumentException IllegalStateException",
        "int pass(int) IllegalArgumentException",
        "int claim(int,int,boolean,int) IndexOutOfBoundsException IllegalArgumentException IllegalStateException",
        "int cure(int) IndexOutOfBoundsException IllegalStateException",
        "int deny(int) IndexOutOfBoundsException IllegalStateException",
        "int object(int) IndexOutOfBoundsException IllegalStateException",
        "int decide(int,boolean) IndexOutOfBoundsException IllegalStateException",
        "int round(int) IllegalArgumentException IllegalStateException",
        "int cash(int) IndexOutOfBoundsException IllegalStateException",
        "int today()",
        "int claims()",
        "int claimOf(int) IndexOutOfBoundsException",
        "int stateOf(int) IndexOutOfBoundsException",
        "int gradeOf(int) IndexOutOfBoundsException",
        "int room(int) IndexOutOfBoundsException",
        "int paidTo(int) IndexOutOfBoundsException",
        "int count(int) IllegalArgumentException",
        "int moneyLeft()",
        "int fee()",
        "int payments()",
        "int paymentTo(int) IndexOutOfBoundsException",
        "int amountOf(int) IndexOutOfBoundsException",
        "int paymentState(int) IndexOutOfBoundsException",
        "int shareOf(int,int) IndexOutOfBoundsException IllegalArgumentException",
        "int shareBySorting(int,int) IndexOutOfBoundsException IllegalArgumentException",
    };
    private static final String[] CONSTANTS = {
        "NONE=-1", "GOOD=0", "FAULTY=1", "DENIED=2", "OBJECTED=3", "OPEN=0", "CASHED=1", "VOID=2",
    };
    private static final String[] RULED_OUT = {
        "import ", "package ", "catch", "finally", "synchronized", "assert", "->", "::", "Exact(", "static {", "lambda",
        "System.out", "System.exit", "System.nano", "System.current", "Object ", "@",
    };
    private static int wrong = 0;

    public static void main(String[] args) throws IOException, IllegalAccessException {
        methods();
        constants();
        constructors();
        limits(SettlementFund.class);
        for (Class<?> inside : SettlementFund.class.getDeclaredClasses()) {
            due(inside + " is hidden", inside.getModifiers() & (Modifier.PUBLIC | Modifier.PROTECTED), 0);
            limits(inside);
        }
        source();
        System.out.println(wrong == 0 ? "the face is the document's" : wrong + " faults of the face");
        if (wrong != 0) {
            System.exit(1);
        }
    }

    private static void due(String what, Object got, Object want) {
        if (!got.equals(want)) {
            wrong++;
            System.out.println(what + ": " + got + ", due is " + want);
        }
    }

    private static void methods() {
        Set<String> shown = new TreeSet<>();
        Set<String> hidden = new TreeSet<>();
        Set<String> names = new TreeSet<>();
        for (Method m : SettlementFund.class.getDeclaredMethods()) {
            if (Modifier.isPrivate(m.getModifiers())) {
                hidden.add(m.getName());
                continue;
            }
            due(m.getName() + " is public", m.getModifiers(), Modifier.PUBLIC);
            shown.add(written(m));
            names.add(m.getName());
        }
        due("methods", shown, new TreeSet<>(Arrays.asList(METHODS)));
        hidden.retainAll(names);
        due("private methods with public names", hidden, new TreeSet<String>());
    }

    private static String written(Method m) {
        StringBuilder text = new StringBuilder(m.getReturnType() + " " + m.getName() + "(");
        for (Class<?> type : m.getParameterTypes()) {
            text.append(text.charAt(text.length() - 1) == '(' ? "" : ",").append(type);
        }
        text.append(")");
        for (Class<?> type : m.getExceptionTypes()) {
            text.append(" ").append(type.getSimpleName());
        }
        return text.toString();
    }

    private static void constants() throws IllegalAccessException {
        Set<String> shown = new TreeSet<>();
        for (Field f : SettlementFund.class.getDeclaredFields()) {
            if (Modifier.isPrivate(f.getModifiers())) {
                continue;
            }
            due(f.getName() + " is a constant", f.getModifiers(), Modifier.PUBLIC | Modifier.STATIC | Modifier.FINAL);
            due(f.getName() + "'s type", f.getType(), int.class);
            shown.add(f.getName() + "=" + f.getInt(null));
        }
        due("constants", shown, new TreeSet<>(Arrays.asList(CONSTANTS)));
    }

    private static void constructors() {
        Constructor<?>[] all = SettlementFund.class.getDeclaredConstructors();
        due("constructors", all.length, 1);
        due("constructor", all[0].toString(), "public SettlementFund()");
        due("class", SettlementFund.class.getModifiers(), Modifier.PUBLIC | Modifier.FINAL);
    }

    /** What LANGUAGE.md's rules 5 and 11 say of fields and parameters. */
    private static void limits(Class<?> type) {
        int fields = 0;
        for (Field f : type.getDeclaredFields()) {
            boolean isStatic = Modifier.isStatic(f.getModifiers());
            due(f + " is final if it is static", !isStatic || Modifier.isFinal(f.getModifiers()), true);
            fields += isStatic ? 0 : 1;
        }
        due(type + " has at most 20 fields", fields <= 20, true);
        for (Method m : type.getDeclaredMethods()) {
            due(m + " has at most 7 parameters", m.getParameterCount() <= 7, true);
        }
    }

    private static void source() throws IOException {
        String text = Files.readString(Path.of("src/main/java/SettlementFund.java"));
        for (String word : RULED_OUT) {
            due("the source holds '" + word + "'", text.contains(word), false);
        }
        due("signs beyond 127", text.chars().anyMatch(c -> c > 127), false);
    }
}

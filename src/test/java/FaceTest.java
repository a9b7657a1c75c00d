import java.lang.reflect.Method;
import java.lang.reflect.Modifier;
import java.util.Arrays;
import java.util.Set;
import java.util.TreeSet;

/** That the class has the document's face and no other, and that no call answers with what the machine throws. */
public final class FaceTest {
    private static final String I = "IndexOutOfBoundsException";
    private static final String A = "IllegalArgumentException";
    private static final String S = "IllegalStateException";
    private static final int[] EDGES = {Integer.MIN_VALUE, -1000001, -100001, -100000, -2, -1, 0, 1, 2, 5, 8, 11, 12, 15, 16,
        59, 60, 100, 200, 201, 299, 300, 1999, 2000, 2001, 100000, 100001, 1000000, 1000001, Integer.MAX_VALUE};

    public static void main(String[] args) {
        face();
        edges();
        Check.end("FaceTest");
    }

    private static void face() {
        Set<String> want = new TreeSet<>(Arrays.asList(
                "int feed(int,int,int,int,int) " + S, "int trim(int) " + A, "int teach() " + S, "int errorAt() ",
                "int count(int) " + I, "int account(int,int) " + I, "int setRate(int,int) " + I + A + S,
                "int post(int,int,int,int,int) " + I + A + S, "int reverse(int,int) " + I + S, "int entry(int,int) " + I,
                "int line(int,int) " + I, "int balance(int,int,boolean) " + I, "int trial(int,int) " + I,
                "int allocate(int,int,int) " + I + A + S, "int match(int) " + I, "int undo(int) " + I,
                "int owed(int,int,int) " + I, "int exact(int) " + I, "int close(int) " + I + S, "int reopen(int) " + I + S,
                "int period(int,int) " + I, "int restated(int,int) " + I,
                "int would(int,int,int,int,int,int) " + I + A, "int solve(int,int,int,int) " + I + A, "int state(int) " + I,
                "int byteAt(int) " + I, "double cleared() ", "long digest() "));
        Set<String> got = new TreeSet<>();
        for (Method method : SubLedger.class.getDeclaredMethods()) {
            if (!method.isSynthetic() && !Modifier.isPrivate(method.getModifiers())) {
                Check.due("public " + method, true, () -> Modifier.isPublic(method.getModifiers())
                        && !Modifier.isStatic(method.getModifiers()));
                got.add(told(method));
            }
        }
        Check.due("the public methods", want, () -> got);
        Check.due("the class is public and final", Modifier.PUBLIC | Modifier.FINAL, () -> SubLedger.class.getModifiers());
        Check.due("constructors", 1, () -> SubLedger.class.getConstructors().length);
        Check.due("fields", 0, () -> (int) Arrays.stream(SubLedger.class.getDeclaredFields())
                .filter(field -> !Modifier.isPrivate(field.getModifiers())).count());
    }

    private static String told(Method method) {
        StringBuilder text = new StringBuilder(method.getReturnType() + " " + method.getName() + "(");
        String between = "";
        for (Class<?> type : method.getParameterTypes()) {
            text.append(between).append(type);
            between = ",";
        }
        text.append(") ");
        for (Class<?> type : method.getExceptionTypes()) {
            text.append(type.getSimpleName());
        }
        return text.toString();
    }

    /** Every call with every edge at one of its places, on ledgers in several states. */
    private static void edges() {
        for (int state = 0; state < 4; state++) {
            for (Method method : SubLedger.class.getMethods()) {
                if (method.getDeclaringClass() == SubLedger.class) {
                    for (int edge : EDGES) {
                        call(method, state, edge);
                    }
                }
            }
        }
    }

    private static void call(Method method, int state, int edge) {
        Class<?>[] types = method.getParameterTypes();
        for (int place = 0; place < Math.max(1, types.length); place++) {
            SubLedger ledger = inState(state);
            Object[] values = new Object[types.length];
            for (int i = 0; i < values.length; i++) {
                values[i] = types[i] == boolean.class ? (Object) (edge > 0) : (Object) (i == place ? edge : 0);
            }
            Check.due(method.getName() + Arrays.toString(values) + " in state " + state, true,
                    () -> isAllowed(method, ledger, values));
        }
    }

    /** Whether it answers, or the class itself throws one of its exceptions. */
    private static boolean isAllowed(Method method, SubLedger ledger, Object[] values) {
        try {
            method.invoke(ledger, values);
            return true;
        } catch (ReflectiveOperationException e) {
            Throwable thrown = e.getCause();
            boolean isByClass = thrown.getStackTrace()[0].getClassName().startsWith("SubLedger");
            return isByClass && Arrays.asList(method.getExceptionTypes()).contains(thrown.getClass());
        }
    }

    private static SubLedger inState(int state) {
        if (state == 0) {
            return new SubLedger();
        }
        SubLedger ledger = Check.taught("account a asset items foreign;account i income;account e equity;"
                + "post p{debit a x;credit a y;rest i;}");
        for (int n = 0; n < (state == 3 ? 60 : 4); n++) {
            ledger.post(0, 0, 10 + n, n, 0);
        }
        if (state >= 2) {
            ledger.match(0);
            ledger.state(0);
            ledger.close(0);
        }
        return ledger;
    }
}

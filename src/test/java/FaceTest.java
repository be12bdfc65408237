import java.lang.reflect.Constructor;
import java.lang.reflect.Field;
import java.lang.reflect.Member;
import java.lang.reflect.Method;
import java.lang.reflect.Modifier;
import java.util.Arrays;
import java.util.Set;
import java.util.TreeSet;

/** The public face: its constants, its calls with their throws clauses, and nothing beside them. */
public final class FaceTest {
    private static final String INDEX = " throws IndexOutOfBoundsException";
    private static final String[] CALLS = {
        "int wish(int, int, int)" + INDEX + " IllegalArgumentException",
        "int allow(int, int, int)" + INDEX + " IllegalArgumentException",
        "int setMagic(int, int)" + INDEX,
        "int open(int)" + INDEX + " IllegalStateException",
        "int close(int)" + INDEX + " IllegalStateException",
        "int deliver(int)" + INDEX + " IllegalStateException",
        "int lose(int)" + INDEX + " IllegalStateException",
        "int loop(int)" + INDEX + " IllegalStateException",
        "int pass(int) throws IllegalArgumentException",
        "int stateOf(int)" + INDEX,
        "int asked(int, int)" + INDEX,
        "int requests(int)" + INDEX,
        "boolean isLooped(int)" + INDEX,
        "int underWay(int)" + INDEX,
        "int missed(int)" + INDEX,
        "int send(int) throws IllegalArgumentException IllegalStateException",
        "int come(int)" + INDEX + " IllegalStateException",
        "int drop(int)" + INDEX + " IllegalStateException",
        "int given()",
        "int givenAt(int)" + INDEX,
        "int next()",
    };

    public static void main(String[] args) throws ReflectiveOperationException {
        Check check = new Check("FaceTest");
        constants(check);
        calls(check);
        nothingElse(check);
        check.end();
    }

    private static void constants(Check check) throws ReflectiveOperationException {
        String[] names = {"NONE", "REQUEST", "ACK", "HINT", "REJECT", "STOP", "CLOSED", "ASKING", "HEARD", "ANSWERED", "OPEN"};
        int[] values = {-1, 0, 1, 2, 3, 4, 0, 1, 2, 3, 4};
        for (int i = 0; i < names.length; i++) {
            Field field = OptionLine.class.getField(names[i]);
            check.same(names[i], field.getInt(null), values[i]);
            check.same(names[i] + " is public static final", field.getModifiers(),
                    Modifier.PUBLIC | Modifier.STATIC | Modifier.FINAL);
        }
        check.same("public fields", OptionLine.class.getFields().length, names.length);
    }

    private static void calls(Check check) {
        Set<String> found = new TreeSet<>();
        Set<String> hidden = new TreeSet<>();
        for (Method method : OptionLine.class.getDeclaredMethods()) {
            if (Modifier.isPublic(method.getModifiers())) {
                found.add(describe(method));
            } else {
                hidden.add(method.getName());
            }
        }
        check.sameOutcome("the calls", found.toString(), new TreeSet<>(Arrays.asList(CALLS)).toString());
        for (String call : CALLS) {
            String name = call.substring(call.indexOf(' ') + 1, call.indexOf('('));
            check.holds("no private method is named " + name, !hidden.contains(name));
        }
    }

    private static String describe(Method method) {
        StringBuilder text = new StringBuilder();
        text.append(method.getReturnType().getSimpleName()).append(' ').append(method.getName()).append('(');
        String gap = "";
        for (Class<?> type : method.getParameterTypes()) {
            text.append(gap).append(type.getSimpleName());
            gap = ", ";
        }
        text.append(')');
        gap = " throws ";
        for (Class<?> type : method.getExceptionTypes()) {
            text.append(gap).append(type.getSimpleName());
            gap = " ";
        }
        return text.toString();
    }

    private static void nothingElse(Check check) {
        check.same("the class is public and final", OptionLine.class.getModifiers(), Modifier.PUBLIC | Modifier.FINAL);
        Constructor<?>[] constructors = OptionLine.class.getDeclaredConstructors();
        check.same("constructors", constructors.length, 1);
        check.same("parameters of the constructor", constructors[0].getParameterCount(), 0);
        check.holds("the constructor is public", Modifier.isPublic(constructors[0].getModifiers()));
        for (Field field : OptionLine.class.getDeclaredFields()) {
            check.holds(field.getName() + " is public or private", isPublicOrPrivate(field));
        }
        for (Method method : OptionLine.class.getDeclaredMethods()) {
            check.holds(method.getName() + " is public or private", isPublicOrPrivate(method));
        }
    }

    private static boolean isPublicOrPrivate(Member member) {
        return (member.getModifiers() & (Modifier.PUBLIC | Modifier.PRIVATE)) != 0;
    }
}

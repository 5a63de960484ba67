import java.lang.reflect.Constructor;
import java.lang.reflect.Field;
import java.lang.reflect.Method;
import java.lang.reflect.Modifier;
import java.util.Arrays;
import java.util.TreeSet;

/** The public face is the document's, and nothing else can be seen from outside. */
public final class FaceTest {
    private static final Check check = new Check();

    private static final String[] CONSTANTS = {
        "ADD=0", "SUB=1", "MUL=2", "AND=3", "OR=4", "XOR=5", "LEFT=0", "RIGHT=1", "LOGICAL=2", "NONE=-1", "FIXED=-2"};

    private static final String[] METHODS = {
        "int input(int) IllegalArgumentException IllegalStateException",
        "int constant(int) IllegalStateException",
        "int binary(int,int,int) IllegalArgumentException IndexOutOfBoundsException IllegalStateException",
        "int shift(int,int,int) IllegalArgumentException IndexOutOfBoundsException IllegalStateException",
        "int extend(int,boolean) IndexOutOfBoundsException IllegalStateException",
        "int loop(int) IndexOutOfBoundsException IllegalStateException",
        "void back(int,int) IndexOutOfBoundsException IllegalArgumentException",
        "int result(int,int) IndexOutOfBoundsException IllegalStateException",
        "int bits(int,int) IndexOutOfBoundsException IllegalArgumentException",
        "int replaced(int) IndexOutOfBoundsException",
        "int live()",
        "int run(int,int,int,int) IllegalArgumentException",
        "int observed(int,boolean) IndexOutOfBoundsException",
        "int value(int,boolean) IndexOutOfBoundsException"};

    public static void main(String[] args) throws IllegalAccessException {
        check.same("the class", "public final", Modifier.toString(DemandedBits.class.getModifiers()));
        checkConstants();
        checkConstructors();
        checkMethods();
        checkClassesInside();
        check.end();
    }

    private static void checkConstants() throws IllegalAccessException {
        TreeSet<String> seen = new TreeSet<>();
        for (Field field : DemandedBits.class.getDeclaredFields()) {
            if (!Modifier.isPrivate(field.getModifiers())) {
                check.same(field.getName(), "public static final", Modifier.toString(field.getModifiers()));
                check.same(field.getName(), int.class, field.getType());
                seen.add(field.getName() + "=" + field.getInt(null));
            }
        }
        check.same("the constants", new TreeSet<>(Arrays.asList(CONSTANTS)), seen);
    }

    private static void checkConstructors() {
        for (Constructor<?> constructor : DemandedBits.class.getDeclaredConstructors()) {
            check.same("a constructor", "public DemandedBits()", constructor.toString());
        }
    }

    private static void checkMethods() {
        TreeSet<String> seen = new TreeSet<>();
        TreeSet<String> open = new TreeSet<>();
        TreeSet<String> hidden = new TreeSet<>();
        for (Method method : DemandedBits.class.getDeclaredMethods()) {
            if (Modifier.isPrivate(method.getModifiers())) {
                hidden.add(method.getName());
            } else {
                check.same(method.getName(), "public", Modifier.toString(method.getModifiers()));
                open.add(method.getName());
                seen.add(asText(method));
            }
        }
        check.same("the methods", new TreeSet<>(Arrays.asList(METHODS)), seen);
        hidden.retainAll(open);
        check.same("private methods with a public one's name", new TreeSet<String>(), hidden);
    }

    private static String asText(Method method) {
        StringBuilder text = new StringBuilder(method.getReturnType() + " " + method.getName() + "(");
        String comma = "";
        for (Class<?> type : method.getParameterTypes()) {
            text.append(comma).append(type);
            comma = ",";
        }
        text.append(")");
        for (Class<?> type : method.getExceptionTypes()) {
            text.append(" ").append(type.getSimpleName());
        }
        return text.toString();
    }

    private static void checkClassesInside() {
        for (Class<?> inside : DemandedBits.class.getDeclaredClasses()) {
            int modifiers = inside.getModifiers();
            check.same(inside + " is static", true, Modifier.isStatic(modifiers));
            check.same(inside + " is seen", false, Modifier.isPublic(modifiers) || Modifier.isProtected(modifiers));
        }
    }
}

import java.lang.reflect.Field;
import java.lang.reflect.Method;
import java.lang.reflect.Modifier;
import java.util.Arrays;
import java.util.TreeSet;

/** The public face: every constant, constructor and method of it, and no other member that is not private. */
final class FaceTest {
    private static final String[] CONSTANTS = {"NONE -1", "PASSED 0", "RESOLVED 1", "TURNED 2", "PLAYABLE 0",
        "NOT_NOW 1", "TOO_DEAR 2", "NO_TARGET 3", "STACK_FULL 4"};
    private static final String INDEX = " IndexOutOfBoundsException", STATE = " IllegalStateException";
    private static final String ARGUMENT = " IllegalArgumentException";
    private static final String[] METHODS = {"int play 2" + INDEX + STATE, "int obstacle 2" + INDEX, "int pass 0",
        "int settle 1" + ARGUMENT, "int turn 0", "int acting 0", "int rounds 0", "int loops 0", "int coins 1" + INDEX,
        "int things 0", "int cardOf 1" + INDEX, "int controllerOf 2" + INDEX + ARGUMENT,
        "int kindsOf 2" + INDEX + ARGUMENT, "int strengthOf 2" + INDEX + ARGUMENT, "int power 1" + INDEX,
        "int stack 0", "int entryCard 1" + INDEX, "boolean isTrigger 1" + INDEX, "int entryPlayer 1" + INDEX,
        "int entryTarget 1" + INDEX};

    public static void main(String[] args) throws IllegalAccessException {
        TreeSet<String> constants = new TreeSet<>();
        for (Field field : LayeredTable.class.getDeclaredFields()) {
            if (!Modifier.isPrivate(field.getModifiers())) {
                boolean constant = field.getModifiers() == (Modifier.PUBLIC | Modifier.STATIC | Modifier.FINAL);
                constants.add(field.getName() + (constant ? " " + field.getInt(null) : " is no public constant"));
            }
        }
        Expect.text("the constants", constants.toString(), new TreeSet<>(Arrays.asList(CONSTANTS)).toString());

        TreeSet<String> methods = new TreeSet<>();
        for (Method method : LayeredTable.class.getDeclaredMethods()) {
            if (!Modifier.isPrivate(method.getModifiers())) {
                methods.add(describe(method));
            }
        }
        Expect.text("the methods", methods.toString(), new TreeSet<>(Arrays.asList(METHODS)).toString());

        Expect.same("public and final", LayeredTable.class.getModifiers(), Modifier.PUBLIC | Modifier.FINAL);
        Expect.same("constructors", LayeredTable.class.getDeclaredConstructors().length, 1);
        Expect.same("the public constructor's parameters",
            LayeredTable.class.getConstructors()[0].getParameterCount(), 0);
        Expect.finish();
    }

    private static String describe(Method method) {
        StringBuilder text = new StringBuilder();
        text.append(method.getModifiers() == Modifier.PUBLIC ? "" : "not just public ");
        text.append(method.getReturnType().getName()).append(' ').append(method.getName()).append(' ');
        text.append(method.getParameterCount());
        for (Class<?> thrown : method.getExceptionTypes()) {
            text.append(' ').append(thrown.getSimpleName());
        }
        return text.toString();
    }
}

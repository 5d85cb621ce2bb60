import java.lang.reflect.Constructor;
import java.lang.reflect.Field;
import java.lang.reflect.Method;
import java.lang.reflect.Modifier;
import java.util.Arrays;
import java.util.List;
import java.util.TreeSet;

/** The public face: the constants, the constructor and the methods, and no other visible member. */
public final class FaceTest {
    private static final List<String> METHODS = Arrays.asList(
        "boolean type(long,int)", "int define(int,int)", "int fault()", "void reset()",
        "int methods()", "int depth(int,int)", "int state(int,int,int)", "int first(int,int)",
        "int units(int)", "int unit(int,int)", "void arguments(int,int,int)",
        "int run(boolean,int,int)", "int value()", "int steps()", "int at()", "int running()",
        "int cell(int,int)");

    public static void main(String[] args) {
        Check check = new Check();
        Class<?> face = RegisterTranslator.class;
        check.due("public and final", face.getModifiers(), Modifier.PUBLIC | Modifier.FINAL);
        check.due("BAD", RegisterTranslator.BAD, -1);
        check.due("FULL", RegisterTranslator.FULL, -2);
        check.due("MALFORMED", RegisterTranslator.MALFORMED, -3);
        check.due("REFUSED", RegisterTranslator.REFUSED, -4);
        checkFields(check, face);
        checkMethods(check, face);
        Constructor<?>[] made = face.getDeclaredConstructors();
        check.due("one constructor", made.length, 1);
        check.due("it is public", Modifier.isPublic(made[0].getModifiers()), true);
        check.due("it takes nothing", made[0].getParameterCount(), 0);
        for (Class<?> inside : face.getDeclaredClasses()) {
            int modifiers = inside.getModifiers();
            check.due(inside + " is static", Modifier.isStatic(modifiers), true);
            check.due(inside + " is public", Modifier.isPublic(modifiers), false);
        }
        check.end();
    }

    private static void checkFields(Check check, Class<?> face) {
        List<String> constants = Arrays.asList("BAD", "FULL", "MALFORMED", "REFUSED");
        for (Field field : face.getDeclaredFields()) {
            boolean hidden = Modifier.isPrivate(field.getModifiers());
            check.due("field " + field.getName(), hidden, !constants.contains(field.getName()));
        }
    }

    private static void checkMethods(Check check, Class<?> face) {
        TreeSet<String> seen = new TreeSet<>();
        for (Method method : face.getDeclaredMethods()) {
            if (!Modifier.isPrivate(method.getModifiers())) {
                seen.add(heading(method));
                check.due(method + " is public", Modifier.isPublic(method.getModifiers()), true);
            }
        }
        check.due("methods " + seen, seen.equals(new TreeSet<>(METHODS)), true);
    }

    private static String heading(Method method) {
        StringBuilder text = new StringBuilder();
        for (Class<?> parameter : method.getParameterTypes()) {
            text.append(text.length() == 0 ? "" : ",").append(parameter);
        }
        return method.getReturnType() + " " + method.getName() + "(" + text + ")";
    }
}

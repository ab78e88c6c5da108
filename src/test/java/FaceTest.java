import java.lang.reflect.Constructor;
import java.lang.reflect.Field;
import java.lang.reflect.Method;
import java.lang.reflect.Modifier;
import java.util.Set;
import java.util.TreeSet;

/** The public face, and rule 1 of the language: no other member can be seen from outside. */
public final class FaceTest {
    private static final Checks CHECKS = new Checks("Face");
    private static final Set<String> METHODS = new TreeSet<>(Set.of(
            "begin()void", "mode(int)int", "go(int)int", "put(int,int)int", "get(int)int", "time(long)long",
            "line(boolean)boolean", "set(int,int)int", "register(int)int", "doWord(int)int",
            "fail(int,int,boolean,long,boolean)int", "interrupt()int", "count(int)int", "console(int)int"));
    private static final Set<String> CONSTANTS = new TreeSet<>(Set.of("BAD", "DONE", "OTHER", "OFF"));

    public static void main(String[] args) {
        theClass();
        methods();
        fields();
        classesInside();
        CHECKS.due("BAD", TrapDesk.BAD, -1);
        CHECKS.due("DONE", TrapDesk.DONE, -1);
        CHECKS.due("OTHER", TrapDesk.OTHER, -2);
        CHECKS.due("OFF", TrapDesk.OFF, -3);
        CHECKS.finish();
    }

    private static void theClass() {
        int modifiers = TrapDesk.class.getModifiers();
        CHECKS.due("public and final", Modifier.isPublic(modifiers) && Modifier.isFinal(modifiers), true);
        Constructor<?>[] constructors = TrapDesk.class.getDeclaredConstructors();
        CHECKS.due("constructors", constructors.length, 1);
        CHECKS.due("its parameters", constructors[0].getParameterCount(), 0);
        CHECKS.due("it is public", Modifier.isPublic(constructors[0].getModifiers()), true);
    }

    private static void methods() {
        Set<String> open = new TreeSet<>();
        Set<String> openNames = new TreeSet<>();
        for (Method method : TrapDesk.class.getDeclaredMethods()) {
            if (!Modifier.isPrivate(method.getModifiers())) {
                CHECKS.due(method + " is public and no static one",
                        Modifier.isPublic(method.getModifiers()) && !Modifier.isStatic(method.getModifiers()), true);
                CHECKS.due(method + " declares exceptions", method.getExceptionTypes().length, 0);
                open.add(signature(method));
                openNames.add(method.getName());
            }
        }
        CHECKS.due("methods " + open, open.equals(METHODS), true);
        for (Method method : TrapDesk.class.getDeclaredMethods()) {
            if (Modifier.isPrivate(method.getModifiers())) {
                CHECKS.due(method + " bears a public name", openNames.contains(method.getName()), false);
            }
        }
    }

    private static String signature(Method method) {
        StringBuilder text = new StringBuilder(method.getName()).append('(');
        for (Class<?> parameter : method.getParameterTypes()) {
            text.append(text.charAt(text.length() - 1) == '(' ? "" : ",").append(parameter.getName());
        }
        return text.append(')').append(method.getReturnType().getName()).toString();
    }

    private static void fields() {
        Set<String> open = new TreeSet<>();
        for (Field field : TrapDesk.class.getDeclaredFields()) {
            int modifiers = field.getModifiers();
            if (!Modifier.isPrivate(modifiers)) {
                CHECKS.due(field + " is a public constant of int", Modifier.isPublic(modifiers)
                        && Modifier.isStatic(modifiers) && field.getType() == int.class, true);
                open.add(field.getName());
            }
            if (Modifier.isStatic(modifiers)) {
                CHECKS.due(field + " is final", Modifier.isFinal(modifiers), true);
            }
        }
        CHECKS.due("constants " + open, open.equals(CONSTANTS), true);
    }

    private static void classesInside() {
        for (Class<?> inside : TrapDesk.class.getDeclaredClasses()) {
            int modifiers = inside.getModifiers();
            CHECKS.due(inside + " is static and not public", Modifier.isStatic(modifiers)
                    && !Modifier.isPublic(modifiers) && !Modifier.isProtected(modifiers), true);
        }
    }
}

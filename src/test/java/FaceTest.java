import java.lang.reflect.Constructor;
import java.lang.reflect.Field;
import java.lang.reflect.Method;
import java.lang.reflect.Modifier;
import java.util.Arrays;
import java.util.Set;
import java.util.TreeSet;

/** The public face as the document writes it, and rule 1 of the language. */
public final class FaceTest {
    private static final Checks CHECKS = new Checks("face");
    private static final String[] METHODS = {"boolean load(int)", "int boot()", "int step()", "int run(int)", "int current()",
        "int stateOf(int)", "int exitOf(int)", "int parentOf(int)", "int freeFrames()", "int pages(int)",
        "int register(int,int)", "int pc(int)", "int word(int,int)", "int descriptor(int,int)", "int held(int)",
        "int consoleLength()", "int console(int)", "int waitingTurn(int)"};

    public static void main(String[] args) throws Exception {
        Class<?> face = PagedKernel.class;
        CHECKS.due("public and final", Modifier.isPublic(face.getModifiers()) && Modifier.isFinal(face.getModifiers()), true);
        CHECKS.due("NONE", PagedKernel.NONE, -1);
        constructors(face);
        fields(face);
        methods(face);
        for (Class<?> inside : face.getDeclaredClasses()) {
            CHECKS.due(inside.getName() + " is static", Modifier.isStatic(inside.getModifiers()), true);
            CHECKS.due(inside.getName() + " is not public", Modifier.isPublic(inside.getModifiers()), false);
        }
        CHECKS.finish();
    }

    private static void constructors(Class<?> face) {
        Constructor<?>[] made = face.getDeclaredConstructors();
        CHECKS.due("one constructor", made.length, 1);
        CHECKS.due("of two ints", Arrays.equals(made[0].getParameterTypes(), new Class<?>[] {int.class, int.class}), true);
        CHECKS.due("which is public", Modifier.isPublic(made[0].getModifiers()), true);
    }

    private static void fields(Class<?> face) {
        for (Field field : face.getDeclaredFields()) {
            int kind = field.getModifiers();
            boolean open = field.getName().equals("NONE");
            CHECKS.due(field.getName() + " is public", Modifier.isPublic(kind), open);
            CHECKS.due(field.getName() + " is private", Modifier.isPrivate(kind), !open);
            CHECKS.due(field.getName() + " is no static state", Modifier.isStatic(kind) && !Modifier.isFinal(kind), false);
        }
    }

    private static void methods(Class<?> face) {
        Set<String> open = new TreeSet<>();
        Set<String> names = new TreeSet<>();
        for (Method method : face.getDeclaredMethods()) {
            if (!Modifier.isPrivate(method.getModifiers())) {
                open.add(written(method));
                names.add(method.getName());
                CHECKS.due(method.getName() + " is public", Modifier.isPublic(method.getModifiers()), true);
                CHECKS.due(method.getName() + " is of the object", Modifier.isStatic(method.getModifiers()), false);
            }
        }
        CHECKS.dueText("methods", open.toString(), new TreeSet<>(Arrays.asList(METHODS)).toString());
        for (Method method : face.getDeclaredMethods()) {
            if (Modifier.isPrivate(method.getModifiers())) {
                CHECKS.due(method.getName() + " is a public name", names.contains(method.getName()), false);
            }
        }
    }

    private static String written(Method method) {
        StringBuilder text = new StringBuilder(method.getReturnType().getName());
        text.append(' ').append(method.getName()).append('(');
        for (int i = 0; i < method.getParameterCount(); i++) {
            text.append(i == 0 ? "" : ",").append(method.getParameterTypes()[i].getName());
        }
        return text.append(')').toString();
    }
}

import java.lang.reflect.Constructor;
import java.lang.reflect.Field;
import java.lang.reflect.Method;
import java.lang.reflect.Modifier;
import java.util.Arrays;
import java.util.TreeSet;

/** The document's face, whole and with nothing beside it (rule 1 of LANGUAGE.md). */
public final class FaceTest {
    private static final String[] FACE = {
        "int feed(int, int, int, int, int) IllegalStateException",
        "void end(int) IllegalArgumentException",
        "int alter(int, int) IndexOutOfBoundsException",
        "int open()",
        "int place()",
        "void limits(int, int) IllegalArgumentException",
        "int take(int) IllegalStateException IndexOutOfBoundsException",
        "int takeAll() IllegalStateException",
        "int entry(int, int) IllegalStateException IndexOutOfBoundsException IllegalArgumentException",
        "int name(int, int) IllegalStateException IndexOutOfBoundsException",
        "int written(int, int) IllegalStateException IndexOutOfBoundsException",
        "int about(int) IllegalArgumentException"
    };

    public static void main(String[] args) {
        int modifiers = ZipGuard.class.getModifiers();
        Checks.due("public final", Modifier.isPublic(modifiers) && Modifier.isFinal(modifiers) ? 1 : 0, 1);
        TreeSet<String> got = new TreeSet<>();
        for (Method method : ZipGuard.class.getDeclaredMethods()) {
            if (!Modifier.isPrivate(method.getModifiers())) {
                got.add(textOf(method));
            }
        }
        TreeSet<String> due = new TreeSet<>(Arrays.asList(FACE));
        if (!got.equals(due)) {
            System.out.println("the face is " + got + ", due is " + due);
        }
        Checks.due("the face", got.equals(due) ? 1 : 0, 1);
        for (Field field : ZipGuard.class.getDeclaredFields()) {
            boolean isFree = Modifier.isPrivate(field.getModifiers()) || field.getName().equals("NONE");
            Checks.due("field " + field.getName(), isFree ? 1 : 0, 1);
        }
        Constructor<?>[] constructors = ZipGuard.class.getDeclaredConstructors();
        Checks.due("constructors", constructors.length, 1);
        Checks.due("its parameters", constructors[0].getParameterCount(), 0);
        for (Class<?> inside : ZipGuard.class.getDeclaredClasses()) {
            Checks.due(inside.getName(), Modifier.isStatic(inside.getModifiers()) ? 1 : 0, 1);
        }
        Checks.finish("FaceTest");
    }

    private static String textOf(Method method) {
        StringBuilder text = new StringBuilder();
        text.append(method.getReturnType().getSimpleName()).append(' ').append(method.getName()).append('(');
        String gap = "";
        for (Class<?> type : method.getParameterTypes()) {
            text.append(gap).append(type.getSimpleName());
            gap = ", ";
        }
        text.append(')');
        for (Class<?> type : method.getExceptionTypes()) {
            text.append(' ').append(type.getSimpleName());
        }
        return text.toString();
    }
}

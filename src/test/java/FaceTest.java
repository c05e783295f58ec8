import java.lang.reflect.Constructor;
import java.lang.reflect.Field;
import java.lang.reflect.Method;
import java.lang.reflect.Modifier;
import java.util.Arrays;
import java.util.TreeSet;

/** The public face: every constant, constructor and method of the document, and no other. */
public final class FaceTest {
    private static final String[] METHODS = {
        "int begin(int) IllegalArgumentException",
        "boolean set(int,int,int,boolean) IndexOutOfBoundsException",
        "int setRange(int,int,int,int,boolean) IndexOutOfBoundsException",
        "int flipRange(int,int,int,int) IndexOutOfBoundsException",
        "int setRow(int,int,long) IndexOutOfBoundsException",
        "int chain(int) IndexOutOfBoundsException",
        "int draw(int,int,int) IndexOutOfBoundsException IllegalArgumentException",
        "int copy(int,int) IndexOutOfBoundsException",
        "int combine(int,int,int) IndexOutOfBoundsException IllegalArgumentException",
        "int compose(int,int,int) IndexOutOfBoundsException",
        "int turn(int) IndexOutOfBoundsException",
        "int oppose(int) IndexOutOfBoundsException",
        "int close(int,boolean) IndexOutOfBoundsException",
        "int cover(int,int) IndexOutOfBoundsException IllegalStateException",
        "boolean has(int,int,int) IndexOutOfBoundsException",
        "int count(int) IndexOutOfBoundsException",
        "int countOf(int,int) IndexOutOfBoundsException",
        "int beside(int,int,int,int) IndexOutOfBoundsException IllegalArgumentException",
        "long wordOf(int,int,int) IndexOutOfBoundsException IllegalArgumentException",
        "boolean meet(int,int,int,int) IndexOutOfBoundsException",
        "int compare(int,int) IndexOutOfBoundsException",
        "boolean is(int,int) IndexOutOfBoundsException IllegalArgumentException",
        "int steps(int,int,int) IndexOutOfBoundsException",
        "int classOf(int,int) IndexOutOfBoundsException",
        "int classes(int) IndexOutOfBoundsException",
        "boolean hasRing(int) IndexOutOfBoundsException",
        "int orderAt(int,int) IndexOutOfBoundsException IllegalStateException",
        "int longestWalk(int) IndexOutOfBoundsException IllegalStateException",
        "int mark(int,int,boolean) IndexOutOfBoundsException",
        "int spread(int,boolean) IndexOutOfBoundsException",
        "int markedAt(int) NoSuchElementException",
        "int endOfMarks()",
        "double meanRow(int) IndexOutOfBoundsException",
        "float share(int) IndexOutOfBoundsException",
        "int errors()",
    };

    private static String told(Method method) {
        StringBuilder text = new StringBuilder();
        text.append(method.getReturnType().getSimpleName()).append(' ').append(method.getName());
        text.append('(');
        Class<?>[] types = method.getParameterTypes();
        for (int i = 0; i < types.length; i++) {
            text.append(i == 0 ? "" : ",").append(types[i].getSimpleName());
        }
        text.append(')');
        for (Class<?> thrown : method.getExceptionTypes()) {
            text.append(' ').append(thrown.getSimpleName());
        }
        return text.toString();
    }

    public static void main(String[] args) {
        Check check = new Check("FaceTest");
        Class<?> face = Relationrows.class;
        TreeSet<String> seen = new TreeSet<>();
        TreeSet<String> publicNames = new TreeSet<>();
        for (Method method : face.getDeclaredMethods()) {
            int signs = method.getModifiers();
            if (Modifier.isPublic(signs)) {
                seen.add(told(method));
                publicNames.add(method.getName());
                check.due(method + " is static", Modifier.isStatic(signs), false);
            } else if (!method.isSynthetic()) {
                check.due(method + " is private", Modifier.isPrivate(signs), true);
            }
        }
        check.dueText("the methods", seen.toString(),
                new TreeSet<>(Arrays.asList(METHODS)).toString());
        for (Method method : face.getDeclaredMethods()) {
            if (!Modifier.isPublic(method.getModifiers())) {
                check.due(method + " bears a public name",
                        publicNames.contains(method.getName()), false);
            }
        }
        for (Field field : face.getDeclaredFields()) {
            boolean isNone = field.getName().equals("NONE");
            check.due(field + " is public", Modifier.isPublic(field.getModifiers()), isNone);
            check.due(field + " is private", Modifier.isPrivate(field.getModifiers()), !isNone);
            if (Modifier.isStatic(field.getModifiers())) {
                check.due(field + " is final", Modifier.isFinal(field.getModifiers()), true);
            }
        }
        Constructor<?>[] made = face.getDeclaredConstructors();
        check.due("the constructors", made.length, 1);
        check.due("the constructor's parameters", made[0].getParameterCount(), 0);
        check.due("the constructor is public", Modifier.isPublic(made[0].getModifiers()), true);
        check.due("the class is final", Modifier.isFinal(face.getModifiers()), true);
        check.due("the class is public", Modifier.isPublic(face.getModifiers()), true);
        for (Class<?> inside : face.getDeclaredClasses()) {
            int signs = inside.getModifiers();
            check.due(inside + " is static", Modifier.isStatic(signs), true);
            check.due(inside + " is hidden",
                    Modifier.isPublic(signs) || Modifier.isProtected(signs), false);
            for (Method method : inside.getDeclaredMethods()) {
                check.due(inside + "." + method.getName() + " bears a public name",
                        publicNames.contains(method.getName()), false);
            }
        }
        check.due("NONE", Relationrows.NONE, -1);
        check.end();
    }
}

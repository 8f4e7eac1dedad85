import java.lang.reflect.Constructor;
import java.lang.reflect.Field;
import java.lang.reflect.Method;
import java.lang.reflect.Modifier;
import java.util.Arrays;
import java.util.TreeSet;

/** The class has the document's face and, of its own members, no other that can be seen. */
public final class FaceTest {
    private static final String[] FACE = {
        "int point(int,int,int)", "int cube(int)", "int plane(int,int,int,int)", "int axis(int,int,int)",
        "int order(int)", "int side(int,int)", "int pieces()", "int piece(int)", "int image(int,int)",
        "int turn(int,int,int)", "int at(int)", "int way(int)", "int home()", "boolean maps(int)",
        "int cycle(int,int,int)", "int rounds(int)", "int keep()", "boolean back(int)"};
    private static int wrong = 0;

    private static void want(boolean holds, String what) {
        if (!holds) {
            wrong++;
            System.out.println("not so: " + what);
        }
    }

    public static void main(String[] args) {
        Class<?> type = CutBodies.class;
        want(Modifier.isPublic(type.getModifiers()) && Modifier.isFinal(type.getModifiers()), "public final class");
        methods(type);
        Constructor<?>[] makers = type.getDeclaredConstructors();
        want(makers.length == 1 && makers[0].getParameterCount() == 0 && Modifier.isPublic(makers[0].getModifiers()),
            "one public constructor without parameters");
        for (Field field : type.getDeclaredFields()) {
            want(Modifier.isPrivate(field.getModifiers()), "a private field: " + field.getName());
            want(!Modifier.isStatic(field.getModifiers()) || Modifier.isFinal(field.getModifiers()),
                "a final static field: " + field.getName());
        }
        for (Class<?> inside : type.getDeclaredClasses()) {
            want(Modifier.isStatic(inside.getModifiers()), "a static class inside: " + inside.getName());
        }
        System.out.println(wrong == 0 ? "the face is the document's" : wrong + " things are not so");
        if (wrong != 0) System.exit(1);
    }

    private static void methods(Class<?> type) {
        TreeSet<String> seen = new TreeSet<>();
        TreeSet<String> names = new TreeSet<>();
        for (Method method : type.getDeclaredMethods()) {
            if (Modifier.isPrivate(method.getModifiers())) continue;
            seen.add(written(method));
            names.add(method.getName());
            want(Modifier.isPublic(method.getModifiers()) && !Modifier.isStatic(method.getModifiers()),
                "a public method: " + method.getName());
        }
        want(seen.equals(new TreeSet<>(Arrays.asList(FACE))), "the methods of the face: " + seen);
        for (Method method : type.getDeclaredMethods()) {
            want(!Modifier.isPrivate(method.getModifiers()) || !names.contains(method.getName()),
                "a private method of another name: " + method.getName());
        }
    }

    private static String written(Method method) {
        StringBuilder text = new StringBuilder(method.getReturnType().getName()).append(' ').append(method.getName()).append('(');
        for (int i = 0; i < method.getParameterCount(); i++) {
            text.append(i == 0 ? "" : ",").append(method.getParameterTypes()[i].getName());
        }
        return text.append(')').toString();
    }
}

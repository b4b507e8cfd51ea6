import java.lang.reflect.Constructor;
import java.lang.reflect.Field;
import java.lang.reflect.Method;
import java.lang.reflect.Modifier;
import java.util.Arrays;
import java.util.Set;
import java.util.TreeSet;
import java.util.stream.Collectors;

/** The class's face: just what the document tells, and no private method with a name of it. */
public final class FaceTests {
    private static final Set<String> FACE = Set.of(
        "int word(long, int) throws IllegalArgumentException, IllegalStateException",
        "boolean drop(long)",
        "int build() throws IllegalStateException",
        "int hold() throws IllegalStateException",
        "boolean release(int) throws IllegalArgumentException",
        "int look(int, int) throws NoSuchElementException, IllegalArgumentException",
        "int cost(int, long) throws NoSuchElementException",
        "int complete(int, long, int) throws IllegalArgumentException, NoSuchElementException",
        "int near(int, long, int) throws IllegalArgumentException, NoSuchElementException",
        "long given(int) throws IndexOutOfBoundsException",
        "int distance(long, long) throws IllegalArgumentException",
        "int learn(long, long) throws IllegalArgumentException, IllegalStateException",
        "int say(long) throws IllegalArgumentException, IllegalStateException",
        "int correct(int) throws NoSuchElementException, IllegalStateException",
        "long corrected(int) throws IndexOutOfBoundsException");

    private static int wrong = 0;

    public static void main(String[] args) {
        Class<?> face = SuggestDesk.class;
        due("public and final", Modifier.isPublic(face.getModifiers()) && Modifier.isFinal(face.getModifiers()));
        methods(face);
        Constructor<?>[] constructors = face.getDeclaredConstructors();
        due("one constructor", constructors.length == 1);
        due("public, without parameters",
            Modifier.isPublic(constructors[0].getModifiers()) && constructors[0].getParameterCount() == 0);
        due("that declares no exception", constructors[0].getExceptionTypes().length == 0);
        for (Field field : face.getDeclaredFields()) {
            due("private field " + field.getName(), Modifier.isPrivate(field.getModifiers()));
        }
        for (Class<?> inside : face.getDeclaredClasses()) {
            due("static class " + inside.getName(), Modifier.isStatic(inside.getModifiers()));
            for (Field field : inside.getDeclaredFields()) {
                int flags = field.getModifiers();
                due("no static state " + field, !Modifier.isStatic(flags) || Modifier.isFinal(flags));
            }
        }
        System.out.println(wrong == 0 ? "the face is as due" : wrong + " wrong");
        if (wrong != 0) {
            System.exit(1);
        }
    }

    private static void methods(Class<?> face) {
        Set<String> names = new TreeSet<>();
        Set<String> shown = new TreeSet<>();
        for (Method method : face.getDeclaredMethods()) {
            if (Modifier.isPublic(method.getModifiers())) {
                names.add(method.getName());
                shown.add(signature(method));
                due("no static method " + method, !Modifier.isStatic(method.getModifiers()));
            }
        }
        due("the methods " + shown, shown.equals(FACE));
        for (Method method : face.getDeclaredMethods()) {
            boolean hidden = Modifier.isPrivate(method.getModifiers());
            due("public or private: " + method, hidden || Modifier.isPublic(method.getModifiers()));
            due("no private method with a public name: " + method, !hidden || !names.contains(method.getName()));
        }
    }

    private static String signature(Method method) {
        String thrown = names(method.getExceptionTypes());
        return method.getReturnType().getName() + " " + method.getName() + "(" + names(method.getParameterTypes()) + ")"
            + (thrown.isEmpty() ? "" : " throws " + thrown);
    }

    private static String names(Class<?>[] types) {
        return Arrays.stream(types).map(Class::getSimpleName).collect(Collectors.joining(", "));
    }

    private static void due(String what, boolean holds) {
        if (!holds) {
            wrong++;
            System.out.println("wrong: " + what);
        }
    }
}

import java.lang.reflect.Constructor;
import java.lang.reflect.Field;
import java.lang.reflect.Method;
import java.lang.reflect.Modifier;
import java.util.Set;
import java.util.TreeSet;

/** The class's face: just what the document tells, and no private method with a name of it. */
public final class FaceTests {
    private static final Set<String> FACE = Set.of(
        "int word(long,int)", "boolean drop(long)", "int build()", "int hold()", "boolean release(int)",
        "int look(int,int)", "int cost(int,long)", "int complete(int,long,int)", "int near(int,long,int)",
        "long given(int)", "int distance(long,long)", "int learn(long,long)", "int say(long)",
        "int correct(int)", "long corrected(int)");

    private static int wrong = 0;

    public static void main(String[] args) {
        Class<?> face = SuggestDesk.class;
        due("public and final", Modifier.isPublic(face.getModifiers()) && Modifier.isFinal(face.getModifiers()));
        methods(face);
        Constructor<?>[] constructors = face.getDeclaredConstructors();
        due("one constructor", constructors.length == 1);
        due("public, without parameters",
            Modifier.isPublic(constructors[0].getModifiers()) && constructors[0].getParameterCount() == 0);
        for (Field field : face.getDeclaredFields()) {
            due("private field " + field.getName(), Modifier.isPrivate(field.getModifiers()));
        }
        for (Class<?> inside : face.getDeclaredClasses()) {
            due("static class " + inside.getName(), Modifier.isStatic(inside.getModifiers()));
            for (Field field : inside.getDeclaredFields()) {
                int flags = field.getModifiers();
                due("no static state " + field, !Modifier.isStatic(flags) || Modifier.isFinal(flags));
            }
        }
        System.out.println(wrong == 0 ? "the face is as due" : wrong + " wrong");
        if (wrong != 0) {
            System.exit(1);
        }
    }

    private static void methods(Class<?> face) {
        Set<String> names = new TreeSet<>();
        Set<String> shown = new TreeSet<>();
        for (Method method : face.getDeclaredMethods()) {
            if (Modifier.isPublic(method.getModifiers())) {
                names.add(method.getName());
                shown.add(signature(method));
                due("no static method " + method, !Modifier.isStatic(method.getModifiers()));
            }
        }
        due("the methods " + shown, shown.equals(FACE));
        for (Method method : face.getDeclaredMethods()) {
            boolean hidden = Modifier.isPrivate(method.getModifiers());
            due("public or private: " + method, hidden || Modifier.isPublic(method.getModifiers()));
            due("no private method with a public name: " + method, !hidden || !names.contains(method.getName()));
        }
    }

    private static String signature(Method method) {
        StringBuilder text = new StringBuilder(method.getReturnType().getName() + " " + method.getName() + "(");
        String between = "";
        for (Class<?> type : method.getParameterTypes()) {
            text.append(between).append(type.getName());
            between = ",";
        }
        return text.append(")").toString();
    }

    private static void due(String what, boolean holds) {
        if (!holds) {
            wrong++;
            System.out.println("wrong: " + what);
        }
    }
}

import java.lang.reflect.Constructor;
import java.lang.reflect.Field;
import java.lang.reflect.Method;
import java.lang.reflect.Modifier;
import java.util.Arrays;
import java.util.TreeSet;

/** The public face, and rule 1 of the language: no other member is seen from outside. */
public final class FaceTest {
    private static final String[] FACE = {
        "boolean give(int)", "boolean small(int)", "boolean type(char)", "int load()", "int look(int)",
        "int output(int,int)", "int run(int)", "int variable(int,int)", "long bound(int,boolean)", "void wipe()",
    };

    public static void main(String[] args) {
        Check check = new Check();
        check.due("public and final", BigRunner.class.getModifiers(), Modifier.PUBLIC | Modifier.FINAL);
        TreeSet<String> seen = new TreeSet<>();
        TreeSet<String> names = new TreeSet<>();
        for (Method method : BigRunner.class.getDeclaredMethods()) {
            if (!Modifier.isPrivate(method.getModifiers()) && !method.isSynthetic()) {
                String types = Arrays.toString(Arrays.stream(method.getParameterTypes()).map(Class::getName).toArray());
                seen.add(method.getReturnType() + " " + method.getName()
                        + types.replace("[", "(").replace("]", ")").replace(" ", ""));
                check.due(method.getName(), method.getModifiers(), Modifier.PUBLIC);
                names.add(method.getName());
            }
        }
        check.due("methods", seen.toString(), new TreeSet<>(Arrays.asList(FACE)).toString());
        for (Method method : BigRunner.class.getDeclaredMethods()) {
            boolean isPrivate = Modifier.isPrivate(method.getModifiers());
            check.due(method.getName() + " private", isPrivate && names.contains(method.getName()), false);
        }
        for (Field field : BigRunner.class.getDeclaredFields()) {
            check.due(field.getName() + " private", Modifier.isPrivate(field.getModifiers()), true);
        }
        Constructor<?>[] constructors = BigRunner.class.getDeclaredConstructors();
        check.due("constructors", constructors.length, 1);
        check.due("its parameters", constructors[0].getParameterCount(), 0);
        check.due("it is public", constructors[0].getModifiers(), Modifier.PUBLIC);
        for (Class<?> inside : BigRunner.class.getDeclaredClasses()) {
            check.due(inside.getName() + " static", Modifier.isStatic(inside.getModifiers()), true);
            check.due(inside.getName() + " public", Modifier.isPublic(inside.getModifiers()), false);
        }
        check.end("FaceTest");
    }
}

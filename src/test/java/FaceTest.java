import java.lang.reflect.Constructor;
import java.lang.reflect.Field;
import java.lang.reflect.Method;
import java.lang.reflect.Modifier;
import java.util.Arrays;
import java.util.TreeSet;

/** The class has the document's face and nothing else that can be seen from outside. */
public final class FaceTest {
    private static final Due due = new Due();
    private static final String[] FACE = {
        "int all(boolean,int) IllegalArgumentException",
        "boolean block(int,int,int) IndexOutOfBoundsException IllegalStateException",
        "int cell(int,int,int) IndexOutOfBoundsException",
        "int faults(int) IllegalArgumentException",
        "int net(int,int,int,int,int,int) IndexOutOfBoundsException IllegalArgumentException IllegalStateException",
        "void paint(int,int,int,int) IndexOutOfBoundsException",
        "int push(int) IndexOutOfBoundsException",
        "void rip(int) IndexOutOfBoundsException",
        "int route(int) IndexOutOfBoundsException",
        "int shape(int,int) IndexOutOfBoundsException IllegalArgumentException",
        "int shapes()",
        "boolean stitch(int,int) IndexOutOfBoundsException",
        "boolean via(int,int) IndexOutOfBoundsException"};

    public static void main(String[] args) {
        TreeSet<String> methods = new TreeSet<>();
        for (Method method : GridRouter.class.getDeclaredMethods()) {
            if (!Modifier.isPrivate(method.getModifiers()) && !method.isSynthetic()) {
                methods.add(told(method));
            }
        }
        due.is("methods", methods.toString(), new TreeSet<>(Arrays.asList(FACE)).toString());
        for (Field field : GridRouter.class.getDeclaredFields()) {
            due.is(field + " is private", Modifier.isPrivate(field.getModifiers()), true);
        }
        Constructor<?>[] made = GridRouter.class.getDeclaredConstructors();
        due.is("constructors", Arrays.toString(made), "[public GridRouter(int,int,int,int)]");
        due.is("the class is public and final", GridRouter.class.getModifiers(),
                Modifier.PUBLIC | Modifier.FINAL);
        due.end();
    }

    private static String told(Method method) {
        StringBuilder text = new StringBuilder();
        text.append(method.getReturnType()).append(' ').append(method.getName()).append('(');
        Class<?>[] types = method.getParameterTypes();
        for (int i = 0; i < types.length; i++) {
            text.append(i == 0 ? "" : ",").append(types[i]);
        }
        text.append(')');
        for (Class<?> thrown : method.getExceptionTypes()) {
            text.append(' ').append(thrown.getSimpleName());
        }
        return text.toString();
    }
}

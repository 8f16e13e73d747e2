import java.lang.reflect.Constructor;
import java.lang.reflect.Field;
import java.lang.reflect.Method;
import java.lang.reflect.Modifier;
import java.util.Set;
import java.util.TreeSet;

/** The class has the public face of the document, and no other member that can be seen from outside. */
public final class FaceTest {
    private static final String[] FACE = {
        "int make(int, int, int)", "int large(int, int, int)", "boolean link(int, int, int)",
        "boolean load(int, int, int)", "boolean hold(int, int)", "int collect(int)", "int full()", "int mark()",
        "int chosen(int)", "int serial(int)", "int region(int)", "int offset(int)", "int size(int)", "int kind(int)",
        "int used(int)", "int live(int)", "int incoming(int)", "int count(int)"};

    public static void main(String[] args) {
        Class<?> face = RegionHeap.class;
        Checks.due("public final", Modifier.toString(face.getModifiers()), "public final");
        Checks.due("package", face.getPackageName(), "");
        Set<String> names = new TreeSet<>();
        Set<String> seen = new TreeSet<>();
        for (Method method : face.getDeclaredMethods()) {
            if (!Modifier.isPrivate(method.getModifiers())) {
                seen.add(written(method));
                names.add(method.getName());
            }
        }
        Checks.due("methods", seen.toString(), new TreeSet<>(Set.of(FACE)).toString());
        for (Method method : face.getDeclaredMethods()) {
            boolean hidden = Modifier.isPrivate(method.getModifiers());
            Checks.due("private " + method.getName() + " bears a public name",
                hidden && names.contains(method.getName()), false);
        }
        for (Field field : face.getDeclaredFields()) {
            Checks.due("field " + field.getName() + " is private", Modifier.isPrivate(field.getModifiers()), true);
            boolean loose = Modifier.isStatic(field.getModifiers()) && !Modifier.isFinal(field.getModifiers());
            Checks.due("field " + field.getName() + " is static and not final", loose, false);
        }
        for (Class<?> inside : face.getDeclaredClasses()) {
            Checks.due("class " + inside.getName() + " is static", Modifier.isStatic(inside.getModifiers()), true);
        }
        Constructor<?>[] constructors = face.getDeclaredConstructors();
        Checks.due("constructors", constructors.length, 1);
        Checks.due("the constructor", constructors[0].toString(), "public RegionHeap()");
        Checks.finish();
    }

    private static String written(Method method) {
        StringBuilder text = new StringBuilder();
        text.append(method.getReturnType().getName()).append(' ').append(method.getName()).append('(');
        String between = "";
        for (Class<?> type : method.getParameterTypes()) {
            text.append(between).append(type.getName());
            between = ", ";
        }
        return text.append(')').toString();
    }
}

import java.lang.reflect.Constructor;
import java.lang.reflect.Field;
import java.lang.reflect.Method;
import java.lang.reflect.Modifier;
import java.util.Arrays;
import java.util.Set;
import java.util.TreeSet;

/** The public face, no more and no less, and what LANGUAGE.md says of the other members. */
public final class FaceTest {
    private static final String[] METHODS = {
        "int clear()", "int count(int)", "int held(int)", "int is(int,int)", "int keep(int,int)", "int label(int)",
        "int lay(int,int,int,int)", "int light(int)", "int many(int)", "int move(int,int,int,int,int)",
        "int pick(int,int,int,int)", "int piece(int,int,int)", "int put(int,int,int,long)", "int row(int,int)",
        "int sheet(int,int,int)", "int shine(int,int)", "int size(int,int)", "int thing(int,int)", "int weight(int)",
        "long number(int,int,int) throws ArrayIndexOutOfBoundsException ClassCastException NullPointerException"
    };

    public static void main(String[] args) {
        Due due = new Due();
        due.same("UNKNOWN", DrawerHall.UNKNOWN, -1);
        due.same("OUTSIDE", DrawerHall.OUTSIDE, -2);
        due.same("FULL", DrawerHall.FULL, -4);
        due.same("NONE", DrawerHall.NONE, -5);
        due.same("FINDING", DrawerHall.FINDING, -20);
        due.same("the class is public and final", DrawerHall.class.getModifiers(), Modifier.PUBLIC | Modifier.FINAL);
        due.same("constructors", constructors(), "public DrawerHall()");
        due.same("constants", openFields().toString(), "[FINDING, FULL, NONE, OUTSIDE, UNKNOWN]");
        due.same("methods", openMethods().toString(), new TreeSet<>(Arrays.asList(METHODS)).toString());
        due.same("private methods with a public name", sharedNames().toString(), "[]");
        due.end();
    }

    private static String constructors() {
        StringBuilder text = new StringBuilder();
        for (Constructor<?> made : DrawerHall.class.getDeclaredConstructors()) {
            text.append(made);
        }
        return text.toString();
    }

    private static Set<String> openFields() {
        Set<String> names = new TreeSet<>();
        for (Field field : DrawerHall.class.getDeclaredFields()) {
            if (!Modifier.isPrivate(field.getModifiers())) {
                names.add(field.getName());
            }
        }
        return names;
    }

    private static Set<String> openMethods() {
        Set<String> faces = new TreeSet<>();
        for (Method method : DrawerHall.class.getDeclaredMethods()) {
            if (!Modifier.isPrivate(method.getModifiers())) {
                faces.add(face(method));
            }
        }
        return faces;
    }

    private static String face(Method method) {
        StringBuilder text = new StringBuilder();
        text.append(method.getReturnType()).append(' ').append(method.getName()).append('(');
        String between = "";
        for (Class<?> type : method.getParameterTypes()) {
            text.append(between).append(type);
            between = ",";
        }
        text.append(')');
        Set<String> thrown = new TreeSet<>();
        for (Class<?> type : method.getExceptionTypes()) {
            thrown.add(type.getSimpleName());
        }
        if (!thrown.isEmpty()) {
            text.append(" throws ").append(String.join(" ", thrown));
        }
        return text.toString();
    }

    private static Set<String> sharedNames() {
        Set<String> open = new TreeSet<>();
        Set<String> closed = new TreeSet<>();
        for (Method method : DrawerHall.class.getDeclaredMethods()) {
            (Modifier.isPrivate(method.getModifiers()) ? closed : open).add(method.getName());
        }
        closed.retainAll(open);
        return closed;
    }
}

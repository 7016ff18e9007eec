import java.lang.reflect.Constructor;
import java.lang.reflect.Field;
import java.lang.reflect.Method;
import java.lang.reflect.Modifier;
import java.util.ArrayList;
import java.util.HashSet;
import java.util.List;
import java.util.Set;
import java.util.TreeSet;

/** The class shows the document's face and no more, as LANGUAGE.md's rules 1 and 5 ask. */
public final class FaceTest {
    private static final String[] FACE = {
        "long account(int,int) IndexOutOfBoundsException IllegalArgumentException",
        "int cable(int,int,int,int,int) IndexOutOfBoundsException IllegalArgumentException IllegalStateException",
        "int fault(int,int) IndexOutOfBoundsException IllegalStateException",
        "int faultAt(int) IndexOutOfBoundsException",
        "int home(int,int) IndexOutOfBoundsException IllegalStateException",
        "int island(int,int) IllegalArgumentException IllegalStateException",
        "int pass(int) IllegalArgumentException",
        "int price(int,int) IndexOutOfBoundsException IllegalArgumentException",
        "int reach(int) IndexOutOfBoundsException",
        "int send(int,int,int) IndexOutOfBoundsException IllegalStateException",
        "int ship(int,int) IndexOutOfBoundsException IllegalArgumentException IllegalStateException",
        "int shipOf(int,int) IndexOutOfBoundsException IllegalArgumentException",
        "int sum(int,int) IndexOutOfBoundsException IllegalArgumentException",
        "int sumAnew(int) IndexOutOfBoundsException",
        "int trader(int,int,int,int,int,int) IndexOutOfBoundsException IllegalArgumentException IllegalStateException",
        "int way(int,int) IndexOutOfBoundsException",
        "boolean works(int) IndexOutOfBoundsException",
    };

    public static void main(String[] args) {
        Check check = new Check("FaceTest");
        check.due("the class", Modifier.toString(CableChart.class.getModifiers()), "public final");
        Constructor<?>[] made = CableChart.class.getDeclaredConstructors();
        check.due("constructors", made.length, 1);
        check.due("the constructor", made[0].toString(), "public CableChart()");
        check.due("methods", shownMethods().toString(), new TreeSet<>(List.of(FACE)).toString());
        check.due("constants", shownFields().toString(), "[IDLE, NONE, SAILS, SPLICES, TESTS]");
        privateMethods(check);
        staticFields(check);
        check.end();
    }

    private static Set<String> shownMethods() {
        Set<String> shown = new TreeSet<>();
        for (Method method : CableChart.class.getDeclaredMethods()) {
            if (!Modifier.isPrivate(method.getModifiers())) {
                shown.add(faceOf(method));
            }
        }
        return shown;
    }

    private static String faceOf(Method method) {
        List<String> parameters = new ArrayList<>();
        for (Class<?> parameter : method.getParameterTypes()) {
            parameters.add(parameter.getSimpleName());
        }
        StringBuilder face = new StringBuilder();
        face.append(method.getReturnType().getSimpleName()).append(' ').append(method.getName());
        face.append('(').append(String.join(",", parameters)).append(')');
        for (Class<?> thrown : method.getExceptionTypes()) {
            face.append(' ').append(thrown.getSimpleName());
        }
        return face.toString();
    }

    private static Set<String> shownFields() {
        Set<String> shown = new TreeSet<>();
        for (Field field : CableChart.class.getDeclaredFields()) {
            if (!Modifier.isPrivate(field.getModifiers())) {
                shown.add(field.getName());
            }
        }
        return shown;
    }

    private static void privateMethods(Check check) {
        Set<String> names = new HashSet<>();
        for (String face : FACE) {
            names.add(face.substring(face.indexOf(' ') + 1, face.indexOf('(')));
        }
        List<Class<?>> classes = new ArrayList<>(List.of(CableChart.class.getDeclaredClasses()));
        classes.add(CableChart.class);
        for (Class<?> one : classes) {
            for (Method method : one.getDeclaredMethods()) {
                boolean shown = one == CableChart.class && Modifier.isPublic(method.getModifiers());
                check.due(method + " bears a name of the face", names.contains(method.getName()), shown);
            }
        }
    }

    private static void staticFields(Check check) {
        for (Field field : CableChart.class.getDeclaredFields()) {
            if (Modifier.isStatic(field.getModifiers())) {
                check.due(field + " is final", Modifier.isFinal(field.getModifiers()), true);
            }
        }
    }
}

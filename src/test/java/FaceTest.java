import java.lang.reflect.Constructor;
import java.lang.reflect.Field;
import java.lang.reflect.Method;
import java.lang.reflect.Modifier;
import java.util.Arrays;
import java.util.Set;
import java.util.TreeSet;

/** The class has the constants, the constructor and the methods of the document's face, and no others that are seen. */
public final class FaceTest {
    private static final String[] CONSTANTS = {"NONE -1", "BLOCKED -2", "DEADLOCK -3", "WRONG -4", "REFUSED -5",
        "CANCELLED -6"};
    private static final String[] METHODS = {
        "int put(int,long,int) IndexOutOfBoundsException IllegalArgumentException",
        "int run(int) IndexOutOfBoundsException IllegalStateException",
        "int outcome(int) IndexOutOfBoundsException",
        "int why(int,int) IndexOutOfBoundsException",
        "boolean cancel(int) IndexOutOfBoundsException",
        "int answer(int,int) IndexOutOfBoundsException",
        "int kind(int,int,int) IndexOutOfBoundsException",
        "long number(int,int,int) IndexOutOfBoundsException",
        "int letter(int,int,int,int) IndexOutOfBoundsException",
        "long plan(int,int,int) IndexOutOfBoundsException",
        "int held(int,int) IndexOutOfBoundsException",
        "int transaction(int,int) IndexOutOfBoundsException",
        "boolean lazy(boolean)",
        "int sync() IllegalStateException",
        "int checkpoint() IllegalStateException",
        "int crash(int) IllegalArgumentException",
        "int recover(int) IllegalArgumentException IllegalStateException",
        "int log(int,int) IndexOutOfBoundsException",
        "int table(int,int) IndexOutOfBoundsException",
        "int told(int)"};

    private static int wrong;

    public static void main(String[] args) throws IllegalAccessException {
        due("class", Modifier.toString(QueryHall.class.getModifiers()), "public final");
        Set<String> constants = new TreeSet<>();
        for (Field field : QueryHall.class.getDeclaredFields()) {
            if (Modifier.isPublic(field.getModifiers())) {
                due(field.getName(), Modifier.toString(field.getModifiers()), "public static final");
                constants.add(field.getName() + " " + field.getInt(null));
            } else {
                due(field + " is private", "" + Modifier.isPrivate(field.getModifiers()), "true");
            }
        }
        due("constants", constants.toString(), new TreeSet<>(Arrays.asList(CONSTANTS)).toString());
        Set<String> methods = new TreeSet<>();
        for (Method method : QueryHall.class.getDeclaredMethods()) {
            if (Modifier.isPublic(method.getModifiers())) {
                methods.add(faceOf(method));
            } else {
                due(method + " is private", "" + Modifier.isPrivate(method.getModifiers()), "true");
            }
        }
        due("methods", methods.toString(), new TreeSet<>(Arrays.asList(METHODS)).toString());
        Constructor<?>[] constructors = QueryHall.class.getDeclaredConstructors();
        due("constructors", Arrays.toString(constructors), "[public QueryHall()]");
        System.out.println(wrong == 0 ? "the face is as due" : wrong + " parts of the face are not as due");
        if (wrong != 0) {
            System.exit(1);
        }
    }

    private static String faceOf(Method method) {
        StringBuilder b = new StringBuilder(method.getReturnType().getSimpleName()).append(' ').append(method.getName());
        String comma = "(";
        for (Class<?> type : method.getParameterTypes()) {
            b.append(comma).append(type.getSimpleName());
            comma = ",";
        }
        b.append(method.getParameterCount() == 0 ? "()" : ")");
        for (Class<?> type : method.getExceptionTypes()) {
            b.append(' ').append(type.getSimpleName());
        }
        return b.toString();
    }

    private static void due(String what, String got, String due) {
        if (!got.equals(due)) {
            wrong++;
            System.out.println(what + ": " + got + ", due is " + due);
        }
    }
}

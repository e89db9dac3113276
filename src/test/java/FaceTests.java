import java.lang.reflect.Constructor;
import java.lang.reflect.Field;
import java.lang.reflect.Method;
import java.lang.reflect.Modifier;
import java.util.ArrayList;
import java.util.Arrays;
import java.util.Collections;
import java.util.List;

/** The class has the face of the document and nothing else that others can see. */
public final class FaceTests {
    private static final String[] FACE = {
        "int advise(int) throws IndexOutOfBoundsException",
        "int clock(int, int) throws IndexOutOfBoundsException",
        "int come(int) throws IllegalArgumentException, IllegalStateException",
        "int count(int) throws IndexOutOfBoundsException",
        "int foresee(int, int) throws IllegalArgumentException, IndexOutOfBoundsException",
        "int gear(int, int, int, int) throws IndexOutOfBoundsException, IllegalArgumentException",
        "int loudest(int) throws IllegalArgumentException",
        "int mend(int, int) throws IndexOutOfBoundsException, IllegalArgumentException",
        "int next(int) throws IndexOutOfBoundsException",
        "int off(int) throws IndexOutOfBoundsException",
        "int pass(int) throws IllegalArgumentException",
        "int set(int, int) throws IndexOutOfBoundsException, IllegalArgumentException",
        "int shut(int, int, int) throws IndexOutOfBoundsException, IllegalArgumentException",
        "int stands(int) throws IndexOutOfBoundsException",
        "int wind(int) throws IndexOutOfBoundsException",
        "double mean()",
        "long digest()",
    };

    public static void main(String[] args) {
        List<String> want = new ArrayList<>(Arrays.asList(FACE));
        List<String> got = new ArrayList<>();
        List<String> faults = new ArrayList<>();
        List<String> names = new ArrayList<>();
        for (Method method : CuckooShop.class.getDeclaredMethods()) {
            if (Modifier.isPublic(method.getModifiers())) {
                got.add(told(method));
                names.add(method.getName());
            }
        }
        for (Method method : CuckooShop.class.getDeclaredMethods()) {
            if (method.isSynthetic() || Modifier.isPublic(method.getModifiers())) {
                continue;
            }
            if (!Modifier.isPrivate(method.getModifiers())) {
                faults.add("seen from outside: " + method);
            }
            if (names.contains(method.getName())) {
                faults.add("a private method with a public one's name: " + method);
            }
        }
        for (Field field : CuckooShop.class.getDeclaredFields()) {
            if (!Modifier.isPrivate(field.getModifiers())) {
                faults.add("seen from outside: " + field);
            }
        }
        Constructor<?>[] constructors = CuckooShop.class.getDeclaredConstructors();
        if (constructors.length != 1 || !Modifier.isPublic(constructors[0].getModifiers()) || constructors[0].getParameterCount() != 0) {
            faults.add("not one public constructor without parameters");
        }
        if (!Modifier.isPublic(CuckooShop.class.getModifiers()) || !Modifier.isFinal(CuckooShop.class.getModifiers())) {
            faults.add("the class is not public and final");
        }
        Collections.sort(want);
        Collections.sort(got);
        if (!want.equals(got)) {
            faults.add("the face is " + got + ", due is " + want);
        }
        for (String fault : faults) {
            System.out.println(fault);
        }
        System.out.println("FaceTests: " + (faults.isEmpty() ? "the face is as due" : faults.size() + " faults"));
        if (!faults.isEmpty()) {
            System.exit(1);
        }
    }

    private static String told(Method method) {
        return method.getReturnType().getSimpleName() + " " + method.getName() + "(" + listOf(method.getParameterTypes()) + ")"
            + (method.getExceptionTypes().length == 0 ? "" : " throws " + listOf(method.getExceptionTypes()));
    }

    private static String listOf(Class<?>[] types) {
        StringBuilder list = new StringBuilder();
        for (Class<?> type : types) {
            list.append(list.length() == 0 ? "" : ", ").append(type.getSimpleName());
        }
        return list.toString();
    }
}

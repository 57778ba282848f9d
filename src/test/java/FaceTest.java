import java.lang.reflect.Constructor;
import java.lang.reflect.Field;
import java.lang.reflect.Method;
import java.lang.reflect.Modifier;
import java.util.Arrays;
import java.util.Set;
import java.util.TreeSet;

/** The class shows the document's face and nothing else. */
public final class FaceTest {
    private static final Set<String> FACE = new TreeSet<>(Arrays.asList(
            "int take(int, int, int) throws IllegalArgumentException",
            "int form(int, int) throws IndexOutOfBoundsException",
            "int count(int)",
            "int ring(int, int) throws IndexOutOfBoundsException",
            "boolean together(int, int, int) throws IllegalArgumentException",
            "int sign(int) throws IndexOutOfBoundsException",
            "int bits(int) throws IndexOutOfBoundsException",
            "int word(int, int) throws IndexOutOfBoundsException",
            "int residue(int, int) throws IndexOutOfBoundsException, IllegalArgumentException"));

    private static int wrong = 0;

    private static void check(boolean holds, String what) {
        if (!holds) {
            wrong++;
            System.out.println(what);
        }
    }

    private static String face(Method method) {
        StringBuilder text = new StringBuilder();
        text.append(method.getReturnType().getName()).append(' ').append(method.getName()).append('(');
        for (Class<?> type : method.getParameterTypes()) {
            text.append(text.charAt(text.length() - 1) == '(' ? "" : ", ").append(type.getName());
        }
        text.append(')');
        String before = " throws ";
        for (Class<?> type : method.getExceptionTypes()) {
            text.append(before).append(type.getSimpleName());
            before = ", ";
        }
        return text.toString();
    }

    public static void main(String[] args) {
        Set<String> shown = new TreeSet<>();
        Set<String> publicNames = new TreeSet<>();
        for (Method method : FormRing.class.getDeclaredMethods()) {
            if (!Modifier.isPrivate(method.getModifiers())) {
                check(Modifier.isPublic(method.getModifiers()), "not public: " + method);
                shown.add(face(method));
                publicNames.add(method.getName());
            }
        }
        check(shown.equals(FACE), "the face is " + shown);
        for (Method method : FormRing.class.getDeclaredMethods()) {
            check(!Modifier.isPrivate(method.getModifiers()) || !publicNames.contains(method.getName()),
                    "a private method with a public one's name: " + method);
        }
        for (Field field : FormRing.class.getDeclaredFields()) {
            check(Modifier.isPrivate(field.getModifiers()), "not private: " + field);
        }
        for (Class<?> inside : FormRing.class.getDeclaredClasses()) {
            int modifiers = inside.getModifiers();
            check(Modifier.isStatic(modifiers) && !Modifier.isPublic(modifiers) && !Modifier.isProtected(modifiers),
                    "a class inside that is not static, or can be seen: " + inside);
        }
        Constructor<?>[] constructors = FormRing.class.getDeclaredConstructors();
        check(constructors.length == 1 && Modifier.isPublic(constructors[0].getModifiers())
                && constructors[0].getParameterCount() == 0
                && constructors[0].getExceptionTypes().length == 0, "the constructor is not that of the face");
        int modifiers = FormRing.class.getModifiers();
        check(Modifier.isPublic(modifiers) && Modifier.isFinal(modifiers), "the class is not public and final");
        System.out.println(wrong == 0 ? "the face is as due" : wrong + " faults of the face");
        if (wrong != 0) {
            System.exit(1);
        }
    }
}

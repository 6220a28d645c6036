import java.lang.reflect.Constructor;
import java.lang.reflect.Field;
import java.lang.reflect.Method;
import java.lang.reflect.Modifier;
import java.util.ArrayList;
import java.util.Arrays;
import java.util.List;
import java.util.Set;
import java.util.TreeSet;

/** The public face is the document's, and LANGUAGE.md's rules on members hold. */
public final class FaceTest {
    private static final String[] FACE = {
        "int feed(int,int,int,int,int)",
        "int text(int) throws IllegalArgumentException",
        "int fault()",
        "int sound(int,int) throws NoSuchElementException,IllegalArgumentException",
        "int load(int,int) throws NoSuchElementException,IllegalArgumentException",
        "int surge(int) throws IllegalArgumentException",
        "int book(int,int,int) throws NoSuchElementException,IllegalArgumentException,IllegalStateException",
        "int cancel(int) throws NoSuchElementException,IllegalStateException",
        "int undo()",
        "int told(int) throws IllegalArgumentException",
        "int wave(int,int) throws NoSuchElementException,IllegalArgumentException",
        "int bar(int,int) throws NoSuchElementException,IllegalArgumentException",
        "int ship(int,int) throws NoSuchElementException,IllegalArgumentException",
        "int height(int) throws IllegalArgumentException",
        "int peak(int,int,int) throws IllegalArgumentException",
        "int water(int,int) throws NoSuchElementException,IllegalArgumentException",
        "int above(int,int,int,int) throws NoSuchElementException,IllegalArgumentException",
        "int squat(int,int,int,int) throws NoSuchElementException,IllegalArgumentException",
        "int left(int,int,int,int) throws NoSuchElementException,IllegalArgumentException",
        "int fastest(int,int,int) throws NoSuchElementException,IllegalArgumentException",
        "int window(int,int,int,int,int,int) throws NoSuchElementException,IllegalArgumentException",
        "int joined(int,int,int,int,int) throws NoSuchElementException,IllegalArgumentException",
        "int lasts(int,int) throws NoSuchElementException,IllegalArgumentException",
        "int least(int,int,int) throws NoSuchElementException,IllegalArgumentException",
        "int deepest(int,int,int) throws NoSuchElementException,IllegalArgumentException",
        "int soonest(int,int) throws NoSuchElementException,IllegalArgumentException",
        "int convoy(int,int,int) throws IllegalArgumentException",
        "int order(int,int,int,int) throws IllegalArgumentException,NoSuchElementException",
        "int close(int,int,int) throws NoSuchElementException,IllegalArgumentException",
        "int aground()",
        "long print()",
        "int status(int)",
    };

    public static void main(String[] args) throws Exception {
        Check check = new Check("FaceTest");
        Class<?> face = TideGates.class;
        check.isTrue("the class is public and final", face.getModifiers() == (Modifier.PUBLIC | Modifier.FINAL));
        Set<String> due = new TreeSet<>(Arrays.asList(FACE));
        Set<String> found = new TreeSet<>();
        Set<String> names = new TreeSet<>();
        List<String> hidden = new ArrayList<>();
        for (Method method : face.getDeclaredMethods()) {
            if (Modifier.isPublic(method.getModifiers())) {
                found.add(told(method));
                names.add(method.getName());
            } else {
                check.isTrue(method + " is private", Modifier.isPrivate(method.getModifiers()));
                hidden.add(method.getName());
            }
        }
        check.isTrue("methods " + found + " are " + due, found.equals(due));
        for (Class<?> inside : face.getDeclaredClasses()) {
            check.isTrue(inside + " is static", Modifier.isStatic(inside.getModifiers()));
            for (Method method : inside.getDeclaredMethods()) {
                hidden.add(method.getName());
            }
            check.isTrue(inside + " has some twenty fields at most", instanceFields(inside) <= 20);
        }
        for (String name : hidden) {
            check.isTrue("no hidden method is named " + name, !names.contains(name));
        }
        check.isTrue("fields of the face", instanceFields(face) <= 20);
        Constructor<?>[] constructors = face.getDeclaredConstructors();
        check.isTrue("one public constructor without arguments", constructors.length == 1
                && Modifier.isPublic(constructors[0].getModifiers()) && constructors[0].getParameterCount() == 0);
        checkConstants(check, face);
        check.end();
    }

    private static void checkConstants(Check check, Class<?> face) throws Exception {
        Set<String> open = new TreeSet<>();
        for (Field field : face.getDeclaredFields()) {
            int marks = field.getModifiers();
            check.isTrue(field + " is final if static", !Modifier.isStatic(marks) || Modifier.isFinal(marks));
            if (!Modifier.isPrivate(marks)) {
                open.add(field.getName());
                check.isTrue(field + " is a public constant", marks
                        == (Modifier.PUBLIC | Modifier.STATIC | Modifier.FINAL) && field.getType() == int.class);
            }
        }
        check.isTrue("constants are NO, NONE", open.equals(new TreeSet<>(Arrays.asList("NO", "NONE"))));
        check.is("NONE", TideGates.NONE, -1);
        check.is("NO", TideGates.NO, -1000000);
    }

    private static int instanceFields(Class<?> type) {
        int count = 0;
        for (Field field : type.getDeclaredFields()) {
            if (!Modifier.isStatic(field.getModifiers())) {
                count++;
            }
        }
        return count;
    }

    private static String told(Method method) {
        StringBuilder text = new StringBuilder(method.getReturnType().getSimpleName());
        text.append(' ').append(method.getName()).append('(').append(listed(method.getParameterTypes())).append(')');
        Class<?>[] thrown = method.getExceptionTypes();
        return thrown.length == 0 ? text.toString() : text.append(" throws ").append(listed(thrown)).toString();
    }

    private static String listed(Class<?>[] types) {
        List<String> names = new ArrayList<>();
        for (Class<?> type : types) {
            names.add(type.getSimpleName());
        }
        return String.join(",", names);
    }
}

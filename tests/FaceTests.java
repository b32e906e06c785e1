import java.lang.reflect.Constructor;
import java.lang.reflect.Field;
import java.lang.reflect.Method;
import java.lang.reflect.Modifier;
import java.util.ArrayList;
import java.util.Arrays;
import java.util.Collections;
import java.util.List;

/** The class shows the document's face and nothing else, and keeps no static state. */
public final class FaceTests {
    private static final String[] FACE = {
        "int addCanoe(int, int) IllegalArgumentException IllegalStateException",
        "int addRow(int) IllegalArgumentException IllegalStateException",
        "int advise(int, int) IndexOutOfBoundsException IllegalArgumentException IllegalStateException",
        "int at(int, int) IndexOutOfBoundsException",
        "boolean beside(int, int) IndexOutOfBoundsException",
        "int canoe(int, int) IndexOutOfBoundsException",
        "int castOff(int) IndexOutOfBoundsException IllegalStateException",
        "int count(int) IndexOutOfBoundsException",
        "long digest()",
        "int foresee(int, int, int) IndexOutOfBoundsException IllegalArgumentException",
        "int full(int) IndexOutOfBoundsException",
        "int gone(int) IndexOutOfBoundsException",
        "int good(int, int, int) IndexOutOfBoundsException",
        "int leaveIn(int, int) IndexOutOfBoundsException IllegalArgumentException IllegalStateException",
        "int load(int, int, int) IndexOutOfBoundsException IllegalArgumentException IllegalStateException",
        "double mean()",
        "int moor(int, int) IndexOutOfBoundsException IllegalStateException",
        "int offer(int, int, int, int, int) IndexOutOfBoundsException IllegalArgumentException",
        "int pass(int) IllegalArgumentException",
        "int price(int, int, int) IndexOutOfBoundsException IllegalArgumentException",
        "int setWater(int, int, int) IndexOutOfBoundsException IllegalArgumentException",
    };

    private static int wrong = 0;

    private static void holds(String what, boolean got) {
        if (!got) {
            wrong++;
            System.out.println("not so: " + what);
        }
    }

    public static void main(String[] args) {
        Class<?> face = FloatMarket.class;
        holds("public and final", face.getModifiers() == (Modifier.PUBLIC | Modifier.FINAL));
        holds("no class above", face.getSuperclass() == Object.class && face.getInterfaces().length == 0);
        methods(face);
        Constructor<?>[] made = face.getDeclaredConstructors();
        holds("one public constructor", made.length == 1 && Modifier.isPublic(made[0].getModifiers())
                && made[0].getParameterCount() == 0);
        fields(face);
        for (Class<?> inside : face.getDeclaredClasses()) {
            holds(inside + " is static", Modifier.isStatic(inside.getModifiers()));
            holds(inside + " is not public", !Modifier.isPublic(inside.getModifiers()));
            noStaticState(inside);
        }
        System.out.println(wrong == 0 ? "the face is as due" : wrong + " checks failed");
        if (wrong != 0) {
            System.exit(1);
        }
    }

    private static void methods(Class<?> face) {
        List<String> shown = new ArrayList<>();
        List<String> names = new ArrayList<>();
        for (Method method : face.getDeclaredMethods()) {
            if (!Modifier.isPrivate(method.getModifiers())) {
                shown.add(written(method));
                names.add(method.getName());
            }
        }
        for (Method method : face.getDeclaredMethods()) {
            holds("no private method is named " + method.getName(),
                    !Modifier.isPrivate(method.getModifiers()) || !names.contains(method.getName()));
        }
        List<String> due = new ArrayList<>(Arrays.asList(FACE));
        Collections.sort(shown);
        Collections.sort(due);
        holds("the methods are " + shown, shown.equals(due));
    }

    private static String written(Method method) {
        StringBuilder text = new StringBuilder();
        text.append(method.getReturnType().getName()).append(' ').append(method.getName()).append('(');
        String gap = "";
        for (Class<?> parameter : method.getParameterTypes()) {
            text.append(gap).append(parameter.getName());
            gap = ", ";
        }
        text.append(')');
        for (Class<?> thrown : method.getExceptionTypes()) {
            text.append(' ').append(thrown.getSimpleName());
        }
        return text.toString();
    }

    private static void fields(Class<?> face) {
        for (Field field : face.getDeclaredFields()) {
            holds(field + " is private", Modifier.isPrivate(field.getModifiers()));
        }
        noStaticState(face);
    }

    private static void noStaticState(Class<?> some) {
        for (Field field : some.getDeclaredFields()) {
            int modifiers = field.getModifiers();
            holds(field + " is final, if it is static",
                    !Modifier.isStatic(modifiers) || Modifier.isFinal(modifiers));
        }
    }
}

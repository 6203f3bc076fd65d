import java.lang.reflect.Constructor;
import java.lang.reflect.Field;
import java.lang.reflect.Method;
import java.lang.reflect.Modifier;
import java.util.Set;
import java.util.TreeSet;

/** The class has the document's face and nothing else that could be seen. */
public final class FaceTest {
    private static final String[] FACE = {
        "void power(int) IllegalArgumentException IllegalStateException",
        "int off(int) IllegalArgumentException",
        "int run(int) IllegalArgumentException",
        "void value(int, int) IllegalArgumentException IllegalStateException",
        "void post(int, int, int, int, int) IllegalArgumentException IllegalStateException",
        "void disturb(long) IllegalArgumentException",
        "int lose(int) IllegalArgumentException",
        "int state(int) IllegalArgumentException",
        "int clock(int, int) IllegalArgumentException IllegalStateException",
        "int deviation(int, int, boolean) IllegalArgumentException NoSuchElementException",
        "int got(int, int) IllegalArgumentException NoSuchElementException",
        "int frames()",
        "long last() NoSuchElementException",
        "long encode(int, int, boolean, int) IllegalArgumentException",
        "int decode(long) IllegalArgumentException IllegalStateException"};

    public static void main(String[] args) {
        Checks checks = new Checks("FaceTest");
        checks.due("the class is public and final",
            Modifier.isPublic(SlotBus.class.getModifiers()) && Modifier.isFinal(SlotBus.class.getModifiers()));
        checks.dueText("the methods", visibleMethods().toString(), new TreeSet<>(Set.of(FACE)).toString());
        for (Constructor<?> made : SlotBus.class.getDeclaredConstructors()) {
            checks.dueText("the constructor", made.toString(), "public SlotBus(int)");
        }
        for (Field field : SlotBus.class.getDeclaredFields()) {
            checks.due(field + " is private", Modifier.isPrivate(field.getModifiers()));
            checks.due(field + " is no static state",
                !Modifier.isStatic(field.getModifiers()) || Modifier.isFinal(field.getModifiers()));
        }
        for (Class<?> inside : SlotBus.class.getDeclaredClasses()) {
            checks.due(inside + " is static and not public",
                Modifier.isStatic(inside.getModifiers()) && !Modifier.isPublic(inside.getModifiers()));
        }
        checks.end();
    }

    private static Set<String> visibleMethods() {
        Set<String> found = new TreeSet<>();
        for (Method method : SlotBus.class.getDeclaredMethods()) {
            if (!Modifier.isPrivate(method.getModifiers())) {
                StringBuilder text = new StringBuilder(method.getReturnType() + " " + method.getName() + "(");
                for (Class<?> type : method.getParameterTypes()) {
                    text.append(text.charAt(text.length() - 1) == '(' ? "" : ", ").append(type);
                }
                text.append(")");
                for (Class<?> thrown : method.getExceptionTypes()) {
                    text.append(' ').append(thrown.getSimpleName());
                }
                found.add(text.toString());
            }
        }
        return found;
    }
}

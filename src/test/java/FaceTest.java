import java.lang.reflect.Constructor;
import java.lang.reflect.Field;
import java.lang.reflect.Member;
import java.lang.reflect.Method;
import java.lang.reflect.Modifier;
import java.util.Arrays;
import java.util.Set;
import java.util.TreeSet;

/** The public face is the document's, and nothing else can be seen from outside. */
public final class FaceTest {
    private static final Set<String> FACE = new TreeSet<>(Arrays.asList(
            "new(int)", "int send(int, int, int, int, int)", "int bring(int)", "int twice(int)",
            "boolean up(int, boolean)", "int flight(int, int)", "int flying()",
            "int taken(int, int)", "int answer(int)", "boolean answered(int)",
            "int time(int, int, int)", "int value(int)", "int clock(int)", "int seen(int)",
            "boolean agree()", "int count(int)", "int BAD", "int OPEN"));

    public static void main(String[] args) {
        Checks checks = new Checks();
        Set<String> visible = new TreeSet<>();
        Set<String> faceNames = new TreeSet<>();
        for (Constructor<?> made : GroupOrder.class.getDeclaredConstructors()) {
            see(made, "new" + parameters(made.getParameterTypes()), visible);
        }
        for (Method method : GroupOrder.class.getDeclaredMethods()) {
            see(method, method.getReturnType() + " " + method.getName()
                    + parameters(method.getParameterTypes()), visible);
            if (Modifier.isPublic(method.getModifiers())) {
                faceNames.add(method.getName());
            }
        }
        for (Field field : GroupOrder.class.getDeclaredFields()) {
            see(field, field.getType() + " " + field.getName(), visible);
            checks.due(field.getName() + " is final, if it is static", true,
                    !Modifier.isStatic(field.getModifiers()) || Modifier.isFinal(field.getModifiers()));
        }
        for (Method method : GroupOrder.class.getDeclaredMethods()) {
            checks.due("private " + method.getName() + " bears a public name", false,
                    Modifier.isPrivate(method.getModifiers()) && faceNames.contains(method.getName()));
        }
        for (Class<?> inside : GroupOrder.class.getDeclaredClasses()) {
            checks.due(inside.getName() + " is static", true, Modifier.isStatic(inside.getModifiers()));
            checks.due(inside.getName() + " is public or protected", false,
                    (inside.getModifiers() & (Modifier.PUBLIC | Modifier.PROTECTED)) != 0);
        }
        if (!visible.equals(FACE)) {
            System.out.println("the face is " + visible);
        }
        checks.due("the face is the document's", true, visible.equals(FACE));
        int modifiers = GroupOrder.class.getModifiers();
        checks.due("the class is public", true, Modifier.isPublic(modifiers));
        checks.due("the class is final", true, Modifier.isFinal(modifiers));
        checks.due("BAD", -1, GroupOrder.BAD);
        checks.due("OPEN", -2, GroupOrder.OPEN);
        checks.end();
    }

    private static void see(Member member, String told, Set<String> visible) {
        if (!Modifier.isPrivate(member.getModifiers())) {
            visible.add(told);
        }
    }

    private static String parameters(Class<?>[] types) {
        return Arrays.toString(types).replace('[', '(').replace(']', ')');
    }
}

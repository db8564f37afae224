import java.lang.reflect.Constructor;
import java.lang.reflect.Field;
import java.lang.reflect.Method;
import java.lang.reflect.Modifier;
import java.util.Arrays;
import java.util.TreeSet;

/** The public face, and that the class has nothing else that can be seen. */
public final class FaceTest {
    public static void main(String[] args) {
        Checks checks = new Checks();
        TreeSet<String> seen = new TreeSet<>();
        for (Method method : LayerStacks.class.getDeclaredMethods()) {
            if (!Modifier.isPrivate(method.getModifiers())) {
                seen.add(told(method));
            }
        }
        TreeSet<String> wanted = new TreeSet<>(Arrays.asList(
                "boolean unit(int)", "int read()",
                "long thick(int,int,int) IndexOutOfBoundsException IllegalStateException",
                "int kind(int) IndexOutOfBoundsException",
                "boolean via(int,int) IndexOutOfBoundsException",
                "int pressed(int,int) IndexOutOfBoundsException",
                "int skew(int)",
                "boolean copper(int,long,long) IndexOutOfBoundsException IllegalArgumentException",
                "int list() IllegalStateException",
                "boolean row(int,int,long,long) IndexOutOfBoundsException IllegalArgumentException",
                "int match()", "int changes(int) IndexOutOfBoundsException",
                "int role(int) IndexOutOfBoundsException",
                "long sum(int,int) IndexOutOfBoundsException",
                "int write(int) IndexOutOfBoundsException IllegalStateException"));
        checks.due("methods", seen.toString(), wanted.toString());
        checks.due("class", Modifier.toString(LayerStacks.class.getModifiers()), "public final");
        checks.due("NONE", LayerStacks.NONE, -1);
        for (Field field : LayerStacks.class.getDeclaredFields()) {
            boolean isFace = field.getName().equals("NONE");
            checks.due("private " + field.getName(), Modifier.isPrivate(field.getModifiers()), !isFace);
        }
        Constructor<?>[] constructors = LayerStacks.class.getDeclaredConstructors();
        checks.due("constructors", constructors.length, 1);
        checks.due("constructor", Modifier.isPublic(constructors[0].getModifiers()), true);
        hidden(checks);
        checks.end();
    }

    /** LANGUAGE.md, rule 1: what it says of private methods and of the classes inside. */
    private static void hidden(Checks checks) {
        TreeSet<String> face = new TreeSet<>();
        for (Method method : LayerStacks.class.getMethods()) {
            face.add(method.getName());
        }
        for (Method method : LayerStacks.class.getDeclaredMethods()) {
            boolean isHidden = Modifier.isPrivate(method.getModifiers());
            checks.due("a name of its own: " + method.getName(), face.contains(method.getName()), !isHidden);
        }
        for (Class<?> inside : LayerStacks.class.getDeclaredClasses()) {
            int modifiers = inside.getModifiers();
            boolean isSeen = Modifier.isPublic(modifiers) || Modifier.isProtected(modifiers);
            checks.due(inside.getName(), Modifier.isStatic(modifiers) && !isSeen, true);
            for (Method method : inside.getDeclaredMethods()) {
                checks.due("a name of its own: " + method.getName(), face.contains(method.getName()), false);
            }
        }
    }

    private static String told(Method method) {
        StringBuilder text = new StringBuilder();
        text.append(method.getReturnType()).append(' ').append(method.getName()).append('(');
        for (int i = 0; i < method.getParameterCount(); i++) {
            text.append(i == 0 ? "" : ",").append(method.getParameterTypes()[i]);
        }
        text.append(')');
        for (Class<?> thrown : method.getExceptionTypes()) {
            text.append(' ').append(thrown.getSimpleName());
        }
        boolean isPlain = method.getModifiers() == Modifier.PUBLIC;
        return isPlain ? text.toString() : Modifier.toString(method.getModifiers()) + " " + text;
    }
}

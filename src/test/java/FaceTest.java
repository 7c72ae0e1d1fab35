import java.lang.reflect.Constructor;
import java.lang.reflect.Field;
import java.lang.reflect.Method;
import java.lang.reflect.Modifier;
import java.util.Set;
import java.util.TreeSet;

/** The class shows the document's face and nothing else, and keeps no state between objects. */
public final class FaceTest {
    private static final Set<String> FACE = Set.of(
            "void pair(int int int boolean) IndexOutOfBoundsException",
            "int piece(int int int boolean) IndexOutOfBoundsException IllegalStateException",
            "void clear(int) IndexOutOfBoundsException",
            "void swap()",
            "int pieces(int) IndexOutOfBoundsException",
            "boolean possible(int) IndexOutOfBoundsException",
            "boolean implies()",
            "boolean sure(int int int) IndexOutOfBoundsException IllegalArgumentException",
            "int frame()",
            "void give(int int) IndexOutOfBoundsException IllegalArgumentException",
            "void put(int int) IllegalArgumentException",
            "boolean holds(int) IndexOutOfBoundsException",
            "void copy(int int) IndexOutOfBoundsException",
            "void load(int int) IndexOutOfBoundsException IllegalStateException",
            "void store(int int) IndexOutOfBoundsException IllegalStateException",
            "void make(int) IndexOutOfBoundsException UnsupportedOperationException",
            "void drop(int) IndexOutOfBoundsException IllegalStateException",
            "int value(int) IndexOutOfBoundsException",
            "int next(int)",
            "int count()");

    public static void main(String[] args) {
        Class<HeapClaims> face = HeapClaims.class;
        Checks.due("public and final", face.getModifiers(), Modifier.PUBLIC | Modifier.FINAL);
        methods(face);
        fields(face);
        Constructor<?>[] made = face.getDeclaredConstructors();
        Checks.due("constructors", made.length, 1);
        Checks.due("constructor is public", made[0].getModifiers(), Modifier.PUBLIC);
        Checks.due("constructor's parameters", made[0].getParameterCount(), 0);
        for (Class<?> inside : face.getDeclaredClasses()) {
            int m = inside.getModifiers();
            boolean hidden = !Modifier.isPublic(m) && !Modifier.isProtected(m);
            Checks.due(inside + " is hidden and static", hidden && Modifier.isStatic(m), true);
            noSharedState(inside);
        }
        Checks.end("FaceTest");
    }

    private static void methods(Class<?> face) {
        Set<String> shown = new TreeSet<>();
        Set<String> names = new TreeSet<>();
        for (Method m : face.getDeclaredMethods()) {
            if (!Modifier.isPrivate(m.getModifiers())) {
                Checks.due(m + " is public", m.getModifiers(), Modifier.PUBLIC);
                shown.add(told(m));
                names.add(m.getName());
            }
        }
        for (Method m : face.getDeclaredMethods()) {
            if (Modifier.isPrivate(m.getModifiers())) {
                Checks.due(m + " bears a public name", names.contains(m.getName()), false);
            }
        }
        Checks.due("the face is " + shown, shown.equals(FACE), true);
    }

    private static String told(Method m) {
        StringBuilder text = new StringBuilder();
        text.append(m.getReturnType().getSimpleName()).append(' ').append(m.getName()).append('(');
        String gap = "";
        for (Class<?> p : m.getParameterTypes()) {
            text.append(gap).append(p.getSimpleName());
            gap = " ";
        }
        text.append(')');
        for (Class<?> e : m.getExceptionTypes()) {
            text.append(' ').append(e.getSimpleName());
        }
        return text.toString();
    }

    private static void fields(Class<?> face) {
        Set<String> shown = new TreeSet<>();
        for (Field f : face.getDeclaredFields()) {
            if (!Modifier.isPrivate(f.getModifiers())) {
                shown.add(Modifier.toString(f.getModifiers()) + " " + f.getName());
            }
        }
        boolean due = shown.equals(Set.of("public static final NONE"));
        Checks.due("the fields shown are " + shown, due, true);
        Checks.due("NONE", HeapClaims.NONE, -1);
        noSharedState(face);
    }

    private static void noSharedState(Class<?> some) {
        for (Field f : some.getDeclaredFields()) {
            if (Modifier.isStatic(f.getModifiers())) {
                Checks.due(f + " is final", Modifier.isFinal(f.getModifiers()), true);
            }
        }
    }
}

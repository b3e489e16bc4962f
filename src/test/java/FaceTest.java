import java.lang.reflect.Constructor;
import java.lang.reflect.Field;
import java.lang.reflect.Method;
import java.lang.reflect.Modifier;
import java.util.Arrays;
import java.util.Set;
import java.util.TreeSet;

/** The class shows the document's face and nothing else, and no nested class uses a name of it for a method. */
public final class FaceTest {
    private static final Due DUE = new Due();
    private static final String[] METHODS = {
        "int feed(int, int, int, int, int)", "boolean end(int)", "int next(int)", "boolean street(int, int, int)",
        "int far(int, int)", "int person(int, int, int)", "int stop(int)", "int wheel(int, int, int, int)",
        "boolean insure(int, int)", "int trip(int, int, int, int, int, int)", "boolean rain()", "int wet(int)",
        "int give(int)", "int bylaw(int)", "int fault()", "int told(int, int, int, int)", "int why()",
        "int morning()", "int of(int, int)", "int rode(int)", "int wheeled(int, int)", "int tried(int)",
        "int seated(int)", "int seatedAt(int)", "int count(int)"};

    public static void main(String[] args) {
        Class<?> face = WalkingTown.class;
        DUE.is("final", Modifier.isFinal(face.getModifiers()), true);
        Set<String> names = new TreeSet<>();
        Set<String> shown = new TreeSet<>();
        for (Method m : face.getDeclaredMethods()) {
            if (!Modifier.isPrivate(m.getModifiers()) && !m.isSynthetic()) {
                shown.add(signature(m));
                names.add(m.getName());
            }
        }
        DUE.is("methods " + shown, shown.equals(new TreeSet<>(Arrays.asList(METHODS))), true);
        for (Field f : face.getDeclaredFields()) {
            DUE.is("field " + f.getName(), Modifier.isPrivate(f.getModifiers()), !f.getName().equals("NONE"));
        }
        int constructors = 0;
        for (Constructor<?> c : face.getDeclaredConstructors()) {
            constructors += Modifier.isPublic(c.getModifiers()) && c.getParameterCount() == 0 ? 1 : 100;
        }
        DUE.is("constructors", constructors, 1);
        for (Class<?> inside : face.getDeclaredClasses()) {
            DUE.is("static " + inside, Modifier.isStatic(inside.getModifiers()), true);
            DUE.is("not public " + inside, Modifier.isPublic(inside.getModifiers()), false);
            for (Method m : inside.getDeclaredMethods()) {
                DUE.is("a name of the face: " + m, names.contains(m.getName()), false);
            }
        }
        for (Method m : face.getDeclaredMethods()) {
            if (Modifier.isPrivate(m.getModifiers())) {
                DUE.is("a name of the face: " + m, names.contains(m.getName()), false);
            }
        }
        DUE.end();
    }

    private static String signature(Method m) {
        StringBuilder text = new StringBuilder();
        text.append(m.getReturnType().getName()).append(' ').append(m.getName()).append('(');
        Class<?>[] types = m.getParameterTypes();
        for (int i = 0; i < types.length; i++) {
            text.append(i == 0 ? "" : ", ").append(types[i].getName());
        }
        return text.append(')').toString();
    }
}

import java.lang.reflect.Field;
import java.lang.reflect.Method;
import java.lang.reflect.Modifier;
import java.util.Arrays;
import java.util.Set;
import java.util.TreeSet;

/** The public face, and those rules of LANGUAGE.md that can be seen in the compiled class. */
final class FaceTest {
    private static final String[] FACE = {
        "public boolean KeyboardKit.key(int,boolean) throws java.lang.IndexOutOfBoundsException",
        "public boolean KeyboardKit.line(int,boolean) throws java.lang.IndexOutOfBoundsException",
        "public int KeyboardKit.about(int) throws java.lang.IndexOutOfBoundsException",
        "public int KeyboardKit.peek(int)",
        "public int KeyboardKit.poke(int,int)",
        "public int KeyboardKit.shown(int) throws java.lang.IndexOutOfBoundsException",
        "public int KeyboardKit.step()",
        "public int KeyboardKit.steps(int) throws java.lang.IllegalArgumentException",
        "public void KeyboardKit.set(int,int) throws java.lang.IndexOutOfBoundsException",
    };
    private static final Set<String> NAMES = Set.of("key", "line", "about", "peek", "poke", "shown", "step", "steps", "set");

    public static void main(String[] args) {
        Class<?> face = KeyboardKit.class;
        Check.equal("public and final", face.getModifiers() & (Modifier.PUBLIC | Modifier.FINAL), Modifier.PUBLIC | Modifier.FINAL);
        Check.equal("constructors", face.getDeclaredConstructors().length, 1);
        Check.equal("public constructors without parameters", face.getConstructors()[0].getParameterCount(), 0);
        methodsOfTheFace(face);
        for (Field field : face.getDeclaredFields()) {
            Check.equal("private: " + field, Modifier.isPrivate(field.getModifiers()), true);
        }
        fieldsOf(face);
        for (Class<?> inside : face.getDeclaredClasses()) {
            Check.equal("static: " + inside, Modifier.isStatic(inside.getModifiers()), true);
            fieldsOf(inside);
            for (Method method : inside.getDeclaredMethods()) {
                Check.equal("a name of the face's: " + method, NAMES.contains(method.getName()), false);
            }
        }
        Check.equal("at most twelve classes", face.getDeclaredClasses().length < 12, true);
        Check.end();
    }

    private static void methodsOfTheFace(Class<?> face) {
        Set<String> found = new TreeSet<>();
        for (Method method : face.getDeclaredMethods()) {
            if (!Modifier.isPrivate(method.getModifiers())) {
                found.add(method.toString());
            } else {
                Check.equal("a name of the face's: " + method, NAMES.contains(method.getName()), false);
            }
        }
        Set<String> due = new TreeSet<>(Arrays.asList(FACE));
        if (!found.equals(due)) {
            System.out.println("the face is " + found);
        }
        Check.equal("the face's methods", found.equals(due), true);
    }

    private static void fieldsOf(Class<?> type) {
        int own = 0;
        for (Field field : type.getDeclaredFields()) {
            if (Modifier.isStatic(field.getModifiers())) {
                Check.equal("final: " + field, Modifier.isFinal(field.getModifiers()), true);
            } else {
                own++;
            }
        }
        Check.equal("at most twenty fields: " + type, own <= 20, true);
    }
}

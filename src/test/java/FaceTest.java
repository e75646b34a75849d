import java.lang.reflect.Constructor;
import java.lang.reflect.Field;
import java.lang.reflect.Method;
import java.lang.reflect.Modifier;
import java.util.Set;
import java.util.TreeSet;

/** The public face of the document, and nothing visible beside it. */
public final class FaceTest {
    private static final Set<String> METHODS = Set.of(
            "int put(int)", "int word(int,int)", "int idle(int)", "long state(int,long)",
            "int bits()", "int bit(int)", "int turn(int)", "int add(int)", "int receive(int)",
            "int told(int,int)", "int receiver(int)");
    private static final Set<String> CONSTANTS = Set.of("NONE", "OUTSIDE", "ROOM");

    public static void main(String[] args) {
        Check check = new Check("FaceTest");
        check.isTrue("the class is public and final",
                Modifier.isPublic(LineBlocks.class.getModifiers())
                        && Modifier.isFinal(LineBlocks.class.getModifiers()));
        check.isTrue("the methods are those of the document", methods().equals(METHODS));
        check.isTrue("the constants are those of the document", constants().equals(CONSTANTS));
        Constructor<?>[] constructors = LineBlocks.class.getDeclaredConstructors();
        check.due("constructors", constructors.length, 1);
        check.due("parameters", constructors[0].getParameterCount(), 0);
        check.isTrue("it is public", Modifier.isPublic(constructors[0].getModifiers()));
        check.due("NONE", LineBlocks.NONE, -1);
        check.due("OUTSIDE", LineBlocks.OUTSIDE, -12);
        check.due("ROOM", LineBlocks.ROOM, -14);
        check.end();
    }

    private static Set<String> methods() {
        Set<String> found = new TreeSet<>();
        for (Method m : LineBlocks.class.getDeclaredMethods()) {
            if (Modifier.isPrivate(m.getModifiers()) || m.isSynthetic()) {
                continue;
            }
            StringBuilder parameters = new StringBuilder();
            for (Class<?> p : m.getParameterTypes()) {
                parameters.append(parameters.length() == 0 ? "" : ",").append(p.getName());
            }
            found.add(m.getReturnType().getName() + " " + m.getName() + "(" + parameters + ")");
        }
        return found;
    }

    private static Set<String> constants() {
        Set<String> found = new TreeSet<>();
        for (Field f : LineBlocks.class.getDeclaredFields()) {
            if (!Modifier.isPrivate(f.getModifiers()) && !f.isSynthetic()) {
                found.add(f.getName());
            }
        }
        return found;
    }
}

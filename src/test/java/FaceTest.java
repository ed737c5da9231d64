import java.lang.reflect.Constructor;
import java.lang.reflect.Field;
import java.lang.reflect.Method;
import java.lang.reflect.Modifier;
import java.util.Set;
import java.util.TreeSet;

/** The public face: what the document tells, and nothing else that isn't private. */
public final class FaceTest {
    public static void main(String[] args) {
        Check check = new Check();
        Set<String> due = new TreeSet<>(Set.of(
                "public static final int StateLogic.NONE",
                "public StateLogic()",
                "public void StateLogic.begin(int) throws java.lang.IllegalArgumentException",
                "public int StateLogic.rule(int,int,int,int) throws"
                        + " java.lang.IllegalArgumentException,java.lang.UnsupportedOperationException",
                "public int StateLogic.formula(int,int,int) throws"
                        + " java.lang.IllegalArgumentException,java.lang.UnsupportedOperationException",
                "public boolean StateLogic.holds(int,int) throws java.lang.IndexOutOfBoundsException",
                "public int StateLogic.count(int) throws java.lang.IndexOutOfBoundsException",
                "public int StateLogic.first(int,int) throws java.lang.IndexOutOfBoundsException",
                "public int StateLogic.length(int,int) throws"
                        + " java.lang.IndexOutOfBoundsException,java.lang.IllegalArgumentException"));
        due.add("public int StateLogic.witness(int,int,int) throws java.lang.IndexOutOfBoundsException,"
                + "java.lang.IllegalArgumentException,java.util.NoSuchElementException");
        due.add("public int StateLogic.ways(int) throws java.lang.IndexOutOfBoundsException");
        check.same("the face", String.join("\n", face()), String.join("\n", due));
        check.same("the class", Modifier.toString(StateLogic.class.getModifiers()), "public final");
        check.end();
    }

    private static Set<String> face() {
        Set<String> face = new TreeSet<>();
        for (Field field : StateLogic.class.getDeclaredFields()) {
            if (!Modifier.isPrivate(field.getModifiers())) {
                face.add(field.toString());
            }
        }
        for (Constructor<?> constructor : StateLogic.class.getDeclaredConstructors()) {
            if (!Modifier.isPrivate(constructor.getModifiers())) {
                face.add(constructor.toString());
            }
        }
        for (Method method : StateLogic.class.getDeclaredMethods()) {
            if (!Modifier.isPrivate(method.getModifiers())) {
                face.add(method.toString());
            }
        }
        return face;
    }
}

import java.lang.reflect.Constructor;
import java.lang.reflect.Field;
import java.lang.reflect.Method;
import java.lang.reflect.Modifier;
import java.util.Arrays;
import java.util.Set;
import java.util.TreeSet;

/** The class has the document's public face, and no other member that is not private. */
public final class FaceTest {
    private static final Set<String> FACE = new TreeSet<>(Arrays.asList(
        "int NONE", "SpliceBench[]", "int hold[int, int, int]", "int thread[int, int]",
        "int put[int, int, long]", "int move[int, int, int, int, int]",
        "int open[int, int, int]", "int close[int, int, int]", "int back[]", "int count[int]",
        "int held[int, int]", "int sort[int, int]", "long number[int, int]", "int show[int]",
        "int shown[int, int]", "int same[int, int, int, int]"));

    public static void main(String[] args) {
        Set<String> found = new TreeSet<>();
        boolean right = Modifier.isFinal(SpliceBench.class.getModifiers());
        for (Field field : SpliceBench.class.getDeclaredFields()) {
            if (!Modifier.isPrivate(field.getModifiers())) {
                found.add(field.getType() + " " + field.getName());
            }
        }
        for (Constructor<?> made : SpliceBench.class.getDeclaredConstructors()) {
            found.add("SpliceBench" + Arrays.toString(made.getParameterTypes()));
            right &= Modifier.isPublic(made.getModifiers());
        }
        for (Method method : SpliceBench.class.getDeclaredMethods()) {
            if (!Modifier.isPrivate(method.getModifiers())) {
                found.add(method.getReturnType() + " " + method.getName()
                    + Arrays.toString(method.getParameterTypes()));
                right &= Modifier.isPublic(method.getModifiers());
            }
        }
        if (!right || !found.equals(FACE)) {
            System.out.println("the face is " + found + ", due is " + FACE);
            System.exit(1);
        }
        System.out.println("the face is as due");
    }
}

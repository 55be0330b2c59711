import java.lang.reflect.Constructor;
import java.lang.reflect.Field;
import java.lang.reflect.Member;
import java.lang.reflect.Method;
import java.lang.reflect.Modifier;
import java.util.Arrays;
import java.util.Set;
import java.util.TreeSet;

/** The class has the document's public face and nothing else that can be seen from outside. */
public final class FaceTest {
    public static void main(String[] args) {
        Checks c = new Checks();
        Set<String> want = new TreeSet<>(Arrays.asList(
            "BAD int", "STATE int", "ObservedBlocks []",
            "get int [int, int, int, boolean]", "put int [int, int, int, int, int]", "free int [int]",
            "change int [int, int, int]", "tick int []", "deliver int [int]", "lose int [int]", "repeat int [int]",
            "spoil boolean [int, int, int]", "waiting int []", "datagram int [int, int]", "slot int [int, int]",
            "body int [int, int]", "content int [int, int]", "server int [int]"));
        Set<String> got = new TreeSet<>();
        for (Field f : ObservedBlocks.class.getDeclaredFields()) {
            if (isSeen(f)) {
                got.add(f.getName() + " " + f.getType());
            }
        }
        for (Constructor<?> k : ObservedBlocks.class.getDeclaredConstructors()) {
            if (isSeen(k)) {
                got.add(k.getName() + " " + Arrays.toString(k.getParameterTypes()));
            }
        }
        for (Method m : ObservedBlocks.class.getDeclaredMethods()) {
            if (isSeen(m)) {
                got.add(m.getName() + " " + m.getReturnType() + " " + Arrays.toString(m.getParameterTypes()));
            }
        }
        System.out.println(got);
        c.due("the face", got.equals(want), true);
        c.due("the class is public and final",
            ObservedBlocks.class.getModifiers() & (Modifier.PUBLIC | Modifier.FINAL), Modifier.PUBLIC | Modifier.FINAL);
        c.due("BAD", ObservedBlocks.BAD, -1);
        c.due("STATE", ObservedBlocks.STATE, -2);
        c.finish("FaceTest");
    }

    private static boolean isSeen(Member m) {
        return !Modifier.isPrivate(m.getModifiers()) && !m.isSynthetic();
    }
}

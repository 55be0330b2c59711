import java.io.IOException;
import java.lang.reflect.Constructor;
import java.lang.reflect.Field;
import java.lang.reflect.Member;
import java.lang.reflect.Method;
import java.lang.reflect.Modifier;
import java.nio.file.Files;
import java.nio.file.Path;
import java.util.ArrayList;
import java.util.Arrays;
import java.util.List;
import java.util.Set;
import java.util.TreeSet;
import java.util.regex.Pattern;

/** The class has the document's public face, and the form that the rules of LANGUAGE.md ask for. */
public final class FaceTest {
    private static final Checks c = new Checks();

    public static void main(String[] args) throws IOException {
        theFaceAndNothingElse();
        rule1NoOtherMethodBearsANameOfTheFace();
        rule1ClassesInsideAreHidden();
        rule5StaticFieldsAreFinal();
        rule11NothingGrowsTooLarge();
        wordsThatTheRulesLeaveOut();
        c.finish("FaceTest");
    }

    private static void theFaceAndNothingElse() {
        Set<String> want = new TreeSet<>(Arrays.asList(
            "BAD int", "STATE int", "ObservedBlocks []",
            "get int [int, int, int, boolean]", "put int [int, int, int, int, int]", "free int [int]",
            "change int [int, int, int]", "tick int []", "deliver int [int]", "lose int [int]", "repeat int [int]",
            "spoil boolean [int, int, int]", "waiting int []", "datagram int [int, int]", "slot int [int, int]",
            "body int [int, int]", "content int [int, int]", "server int [int]"));
        Set<String> got = new TreeSet<>();
        for (Field f : ObservedBlocks.class.getDeclaredFields()) {
            if (isSeen(f)) {
                got.add(f.getName() + " " + f.getType());
            }
        }
        for (Constructor<?> k : ObservedBlocks.class.getDeclaredConstructors()) {
            if (isSeen(k)) {
                got.add(k.getName() + " " + Arrays.toString(k.getParameterTypes()));
            }
        }
        for (Method m : ObservedBlocks.class.getDeclaredMethods()) {
            if (isSeen(m)) {
                got.add(m.getName() + " " + m.getReturnType() + " " + Arrays.toString(m.getParameterTypes()));
            }
        }
        c.due("the face is " + got + ": that it is as due", got.equals(want), true);
        c.due("the class is public and final",
            ObservedBlocks.class.getModifiers() & (Modifier.PUBLIC | Modifier.FINAL), Modifier.PUBLIC | Modifier.FINAL);
        c.due("BAD", ObservedBlocks.BAD, -1);
        c.due("STATE", ObservedBlocks.STATE, -2);
    }

    private static void rule1NoOtherMethodBearsANameOfTheFace() {
        Set<String> face = new TreeSet<>();
        for (Method m : ObservedBlocks.class.getMethods()) {
            face.add(m.getName());
        }
        for (Class<?> each : allClasses()) {
            for (Method m : each.getDeclaredMethods()) {
                boolean isOfTheFace = each == ObservedBlocks.class && Modifier.isPublic(m.getModifiers());
                c.due(m + " bears a name of the face", !isOfTheFace && face.contains(m.getName()), false);
            }
        }
    }

    private static void rule1ClassesInsideAreHidden() {
        for (Class<?> inside : ObservedBlocks.class.getDeclaredClasses()) {
            boolean isSeen = (inside.getModifiers() & (Modifier.PUBLIC | Modifier.PROTECTED)) != 0;
            c.due(inside.getName() + " is static", Modifier.isStatic(inside.getModifiers()), true);
            c.due(inside.getName() + " is seen from outside", isSeen, false);
        }
    }

    private static void rule5StaticFieldsAreFinal() {
        for (Class<?> each : allClasses()) {
            for (Field f : each.getDeclaredFields()) {
                boolean isFree = Modifier.isStatic(f.getModifiers()) && !Modifier.isFinal(f.getModifiers());
                c.due(each.getName() + "." + f.getName() + " is static and can change", isFree, false);
            }
        }
    }

    private static void rule11NothingGrowsTooLarge() {
        c.due("at most twelve classes", allClasses().size() <= 12, true);
        for (Class<?> each : allClasses()) {
            int fields = 0;
            for (Field f : each.getDeclaredFields()) {
                fields += Modifier.isStatic(f.getModifiers()) ? 0 : 1;
            }
            c.due(each.getName() + " has at most twenty fields", fields <= 20, true);
            for (Method m : each.getDeclaredMethods()) {
                c.due(m + " has at most seven parameters", m.getParameterCount() <= 7, true);
            }
        }
    }

    private static void wordsThatTheRulesLeaveOut() throws IOException {
        String program = Files.readString(Path.of("src/main/java/ObservedBlocks.java"));
        String code = program.replaceAll("(?s)/\\*.*?\\*/", "").replaceAll("//.*", "");
        for (String word : new String[] {"package", "import", "synchronized", "assert", "finally", "try", "throw"}) {
            boolean isThere = Pattern.compile("\\b" + word + "\\b").matcher(code).find();
            c.due("the program says " + word, isThere, false);
        }
        c.due("the program has a lambda", code.contains("->"), false);
        c.due("the program has a method reference", code.contains("::"), false);
    }

    private static List<Class<?>> allClasses() {
        List<Class<?>> all = new ArrayList<>(List.of(ObservedBlocks.class));
        all.addAll(Arrays.asList(ObservedBlocks.class.getDeclaredClasses()));
        return all;
    }

    private static boolean isSeen(Member m) {
        return !Modifier.isPrivate(m.getModifiers()) && !m.isSynthetic();
    }
}

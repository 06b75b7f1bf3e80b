import java.lang.reflect.Constructor;
import java.lang.reflect.Field;
import java.lang.reflect.Method;
import java.lang.reflect.Modifier;
import java.util.Arrays;
import java.util.HashSet;
import java.util.Set;
import java.util.TreeSet;

/** The class has the members of the document's face, and no other that is not private. */
public final class FaceTest {
    private static final String INDEX = "IndexOutOfBoundsException";
    private static final String STATE = "IllegalStateException";
    private static final String ARGUMENT = "IllegalArgumentException";

    private static int wrong = 0;

    private static void due(String what, Object got, Object want) {
        if (!got.equals(want)) {
            wrong++;
            System.out.println(what + " is " + got + ", due is " + want);
        }
    }

    public static void main(String[] args) {
        due("the class's modifiers", EdgeJoins.class.getModifiers(), Modifier.PUBLIC | Modifier.FINAL);
        due("NONE", EdgeJoins.NONE, -1);
        due("the methods", methods(), new TreeSet<>(Set.of(
            "int sherd() " + STATE,
            "int step(int, int) " + INDEX + " " + STATE + " " + ARGUMENT,
            "int height(int, int, int) " + INDEX + " " + ARGUMENT,
            "int close(int) " + INDEX,
            "int least(int) " + ARGUMENT,
            "int bound(int) " + ARGUMENT,
            "int run()",
            "int pair(int, int) " + INDEX,
            "int join(int) " + INDEX,
            "boolean undo()",
            "int place(int, int) " + INDEX,
            "int holes(int) " + INDEX,
            "int count(int) " + INDEX)));
        fields();
        constructors();
        privateNames();
        System.out.println(wrong == 0 ? "the face is as due" : wrong + " faults of the face");
        if (wrong != 0) {
            System.exit(1);
        }
    }

    private static Set<String> methods() {
        Set<String> found = new TreeSet<>();
        for (Method m : EdgeJoins.class.getDeclaredMethods()) {
            if (!Modifier.isPrivate(m.getModifiers())) {
                due("modifiers of " + m.getName(), m.getModifiers(), Modifier.PUBLIC);
                StringBuilder text = new StringBuilder(m.getReturnType().getSimpleName() + " " + m.getName());
                text.append(Arrays.toString(m.getParameterTypes()).replace('[', '(').replace(']', ')'));
                for (Class<?> e : m.getExceptionTypes()) {
                    text.append(' ').append(e.getSimpleName());
                }
                found.add(text.toString());
            }
        }
        return found;
    }

    private static void fields() {
        for (Field f : EdgeJoins.class.getDeclaredFields()) {
            boolean constant = f.getName().equals("NONE");
            due("whether " + f.getName() + " is private", Modifier.isPrivate(f.getModifiers()), !constant);
            due("whether static " + f.getName() + " is final",
                !Modifier.isStatic(f.getModifiers()) || Modifier.isFinal(f.getModifiers()), true);
        }
    }

    private static void constructors() {
        Constructor<?>[] all = EdgeJoins.class.getDeclaredConstructors();
        due("the number of constructors", all.length, 1);
        due("the constructor's modifiers", all[0].getModifiers(), Modifier.PUBLIC);
        due("the constructor's parameters", all[0].getParameterCount(), 0);
    }

    private static void privateNames() {
        Set<String> names = new HashSet<>();
        for (Method m : EdgeJoins.class.getDeclaredMethods()) {
            due("whether another method has the name " + m.getName(), names.add(m.getName()), true);
        }
        for (Class<?> inside : EdgeJoins.class.getDeclaredClasses()) {
            for (Method m : inside.getDeclaredMethods()) {
                due("whether a method inside has the name " + m.getName(),
                    Set.of("sherd", "step", "height", "close", "least", "bound", "run", "pair", "join", "undo",
                        "place", "holes", "count").contains(m.getName()), false);
            }
        }
    }
}

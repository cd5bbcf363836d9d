import java.lang.reflect.Constructor;
import java.lang.reflect.Field;
import java.lang.reflect.Method;
import java.lang.reflect.Modifier;
import java.util.Arrays;
import java.util.TreeSet;

/** The class shows what the document's section on the public face says, and nothing else. */
public final class FaceTest {
    private static final String[] FACE = {
        "public static final int NO_TRACE", "public static final int NO_INDEX", "public static final int NEGATIVE_SIZE",
        "public ExactTurtle()",
        "public int setDirections(int) IllegalArgumentException",
        "public int feed(char) IllegalStateException",
        "public int define(char) IllegalArgumentException",
        "public boolean undefine(char) IllegalArgumentException",
        "public int run() NoSuchElementException IllegalStateException ArithmeticException",
        "public int point(int int) IndexOutOfBoundsException",
        "public int points()",
        "public boolean isDrawn(int) IndexOutOfBoundsException",
        "public int direction()",
        "public int turning()",
        "public boolean isClosed()",
        "public int closingRepeats() NoSuchElementException",
        "public long area(int) IllegalArgumentException IllegalStateException",
        "public int meetings()",
        "public int crossings()",
        "public int firstMeeting() NoSuchElementException",
        "public int extreme(int int) IllegalArgumentException",
        "public int corners() IllegalStateException",
        "public int symmetry() IllegalStateException",
        "public boolean isMirrored() IllegalStateException",
        "public int shortestWalk(int) IllegalArgumentException NoSuchElementException",
        "public char outputAt(int) IndexOutOfBoundsException",
        "public int shortestText() IllegalStateException",
        "public char called(int) IndexOutOfBoundsException",
        "public int calls(char)",
        "public int createTrace(int) IllegalArgumentException",
        "public int traceAt(int)",
        "public int saveProcedures()",
        "public int restoreProcedures() IllegalStateException",
    };

    public static void main(String[] args) {
        TreeSet<String> shown = new TreeSet<>();
        for (Field field : ExactTurtle.class.getDeclaredFields()) {
            add(shown, field.getModifiers(), field.getType().getSimpleName() + " " + field.getName(), "");
        }
        for (Constructor<?> made : ExactTurtle.class.getDeclaredConstructors()) {
            add(shown, made.getModifiers(), made.getName() + names(made.getParameterTypes()), "");
        }
        TreeSet<String> hidden = new TreeSet<>();
        for (Method method : ExactTurtle.class.getDeclaredMethods()) {
            String thrown = names(method.getExceptionTypes());
            add(shown, method.getModifiers(), method.getReturnType().getSimpleName() + " " + method.getName()
                    + names(method.getParameterTypes()), thrown.substring(1, thrown.length() - 1));
            if (Modifier.isPrivate(method.getModifiers())) {
                hidden.add(method.getName());
            }
        }
        TreeSet<String> face = new TreeSet<>(Arrays.asList(FACE));
        Check.same("the face", String.join("\n", face), () -> String.join("\n", shown));
        Check.same("a final class", true, () -> Modifier.isFinal(ExactTurtle.class.getModifiers()));
        for (Class<?> inside : ExactTurtle.class.getDeclaredClasses()) {
            Check.same(inside.getName(), true, () -> Modifier.isStatic(inside.getModifiers())
                    && !Modifier.isPublic(inside.getModifiers()));
            for (Method method : inside.getDeclaredMethods()) {
                hidden.add(method.getName());
            }
        }
        for (Method method : ExactTurtle.class.getMethods()) {
            Check.same("no other method called " + method.getName(), false, () -> hidden.contains(method.getName()));
        }
        Check.end();
    }

    private static void add(TreeSet<String> shown, int modifiers, String what, String thrown) {
        if (!Modifier.isPrivate(modifiers)) {
            shown.add((Modifier.toString(modifiers) + " " + what + " " + thrown).trim());
        }
    }

    private static String names(Class<?>[] classes) {
        StringBuilder names = new StringBuilder("(");
        for (Class<?> one : classes) {
            names.append(names.length() > 1 ? " " : "").append(one.getSimpleName());
        }
        return names.append(")").toString();
    }
}

import java.lang.reflect.InvocationTargetException;
import java.lang.reflect.Method;
import java.util.regex.Matcher;
import java.util.regex.Pattern;

/** The examples of the document, in its words: each call is made, and must have the result that follows it. */
public final class ExamplesTest {
    private static final String BEGIN = "Examples. Each one begins with a new object; calls are followed by their results.";

    private static final String[] EXAMPLES = {
        "A square: the characters of \"4(f2l1)\" are fed; run() 8; isClosed() true; area(0) 32; corners() 4; "
                + "symmetry() 4; shortestText() 7.",
        "Directions of sixty degrees: setDirections(6) 4; the characters of \"3(f1l2)\" are fed; run() 6; "
                + "point(1, 0) 2; point(2, 0) 1; point(2, 3) 1; area(0) 0; area(1) 2.",
        "A walk that crosses itself: the characters of \"f2l1f1l1f1l1f2\" are fed; run() 7; crossings() 1.",
        "An open walk: the characters of \"f1l1f1\" are fed; run() 3; shortestWalk(2) throws NoSuchElementException; "
                + "shortestWalk(3) 3; outputAt(0) f; outputAt(1) l; outputAt(2) f; closingRepeats() 4.",
        "A definition and its use: the characters of \"f1l1\" are fed; define('A') 2; the characters of \"2(A)B\" "
                + "are fed; run() throws NoSuchElementException; points() 1; called(0) throws IndexOutOfBoundsException.",
        "A text that is wrong, and rows of a trace: the characters of \"f1)\" are fed; run() -102; traceAt(0) -11; "
                + "createTrace(-1) -14; createTrace(2) 2; traceAt(2) -13; traceAt(1) -1.",
    };

    private static final Pattern FED = Pattern.compile("the characters of \"(.*)\" are fed");
    private static final Pattern CALL = Pattern.compile("(\\w+)\\((.*)\\) (.+)");

    public static void main(String[] args) {
        Check.same("the document has these examples and no others", true,
                () -> Document.holds(BEGIN + " " + String.join(" ", EXAMPLES) + " Details."));
        for (String example : EXAMPLES) {
            int colon = example.indexOf(": ");
            Check.topic("Examples, \"" + example.substring(0, colon) + "\": ");
            make(example.substring(colon + 2, example.length() - 1).split("; "));
        }
        Check.end();
    }

    private static void make(String[] steps) {
        ExactTurtle turtle = new ExactTurtle();
        for (String step : steps) {
            Matcher fed = FED.matcher(step);
            Matcher call = CALL.matcher(step);
            if (fed.matches()) {
                Check.feed(turtle, fed.group(1));
            } else if (call.matches()) {
                Check.same(step, call.group(3), () -> result(turtle, call.group(1), call.group(2)));
            } else {
                Check.fail(step, "a call with its result", "nothing to call");
            }
        }
    }

    private static String result(ExactTurtle turtle, String name, String arguments) {
        Object[] values = arguments.isEmpty() ? new Object[0] : values(arguments.split(", "));
        Class<?>[] types = new Class<?>[values.length];
        for (int i = 0; i < types.length; i++) {
            types[i] = values[i] instanceof Character ? char.class : int.class;
        }
        try {
            Method method = ExactTurtle.class.getMethod(name, types);
            return String.valueOf(method.invoke(turtle, values));
        } catch (InvocationTargetException e) {
            return "throws " + e.getCause().getClass().getSimpleName();
        } catch (ReflectiveOperationException e) {
            return "cannot be called: " + e;
        }
    }

    private static Object[] values(String[] words) {
        Object[] values = new Object[words.length];
        for (int i = 0; i < words.length; i++) {
            values[i] = words[i].startsWith("'") ? (Object) words[i].charAt(1) : (Object) Integer.valueOf(words[i]);
        }
        return values;
    }
}

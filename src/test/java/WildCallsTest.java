import java.util.List;
import java.util.NoSuchElementException;
import java.util.Random;

/** Any calls in any order: only the exceptions that the document names, thrown by the class itself. */
public final class WildCallsTest {
    private static final String LETTERS = "fffllrud0123459(((()))ABCDEFGHfl12(AB)uZ\n";
    private static final List<Class<?>> ARGUMENT = List.of(IllegalArgumentException.class);
    private static final List<Class<?>> STATE = List.of(IllegalStateException.class);
    private static final List<Class<?>> INDEX = List.of(IndexOutOfBoundsException.class);
    private static final List<Class<?>> NONE = List.of(NoSuchElementException.class);

    public static void main(String[] args) {
        Random random = new Random(5);
        for (int i = 0; i < 600; i++) {
            ExactTurtle x = new ExactTurtle();
            for (int k = 0; k < 512; k++) {
                call(x, random);
            }
        }
        Check.end();
    }

    private static void call(ExactTurtle x, Random random) {
        int a = number(random);
        int b = number(random);
        char c = random.nextInt(10) == 0 ? (char) random.nextInt(65536) : LETTERS.charAt(random.nextInt(LETTERS.length()));
        char name = random.nextInt(6) == 0 ? (char) random.nextInt(400) : (char) ('A' + random.nextInt(8));
        switch (random.nextInt(32)) {
            case 0 -> wild(x, ARGUMENT, "setDirections", () -> x.setDirections(a));
            case 1 -> wild(x, STATE, "feed", () -> x.feed(c));
            case 2 -> wild(x, ARGUMENT, "define", () -> x.define(name));
            case 3 -> wild(x, ARGUMENT, "undefine", () -> x.undefine(name));
            case 4 -> wild(x, List.of(NoSuchElementException.class, IllegalStateException.class, ArithmeticException.class), "run",
                    () -> x.run());
            case 5 -> wild(x, INDEX, "point", () -> x.point(a, b));
            case 6 -> wild(x, INDEX, "isDrawn", () -> x.isDrawn(a));
            case 7 -> wild(x, NONE, "closingRepeats", () -> x.closingRepeats());
            case 8 -> wild(x, List.of(IllegalArgumentException.class, IllegalStateException.class), "area", () -> x.area(a));
            case 9 -> wild(x, List.of(), "meetings", () -> x.meetings());
            case 10 -> wild(x, List.of(), "crossings", () -> x.crossings());
            case 11 -> wild(x, NONE, "firstMeeting", () -> x.firstMeeting());
            case 12 -> wild(x, ARGUMENT, "extreme", () -> x.extreme(a, b));
            case 13 -> wild(x, STATE, "corners", () -> x.corners());
            case 14 -> wild(x, STATE, "symmetry", () -> x.symmetry());
            case 15 -> wild(x, STATE, "isMirrored", () -> x.isMirrored());
            case 16 -> wild(x, List.of(IllegalArgumentException.class, NoSuchElementException.class), "shortestWalk",
                    () -> x.shortestWalk(a));
            case 17 -> wild(x, INDEX, "outputAt", () -> x.outputAt(a));
            case 18 -> wild(x, STATE, "shortestText", () -> x.shortestText());
            case 19 -> wild(x, INDEX, "called", () -> x.called(a));
            case 20 -> wild(x, List.of(), "calls", () -> x.calls(name));
            case 21 -> wild(x, ARGUMENT, "createTrace", () -> x.createTrace(a));
            case 22 -> wild(x, List.of(), "traceAt", () -> x.traceAt(a));
            case 23 -> wild(x, List.of(), "saveProcedures", () -> x.saveProcedures());
            case 24 -> wild(x, STATE, "restoreProcedures", () -> x.restoreProcedures());
            case 25 -> wild(x, List.of(), "others", () -> x.points() + x.direction() + x.turning() + (x.isClosed() ? 1 : 0));
            default -> feedSome(x, random);
        }
    }

    private static int number(Random random) {
        return switch (random.nextInt(8)) {
            case 0 -> random.nextInt();
            case 1 -> random.nextBoolean() ? Integer.MAX_VALUE : Integer.MIN_VALUE;
            case 2 -> random.nextInt(320) - 10;
            default -> random.nextInt(14) - 1;
        };
    }

    private static void feedSome(ExactTurtle x, Random random) {
        String[] pieces = {"f3", "l1", "r5", "u", "d", "3(", ")", "4(f1l1)", "A", "B", "12(f2l5)", "H", "f9999", "f0", "0(A)",
            "6(f1l1f2l2)", "l12"};
        String piece = pieces[random.nextInt(pieces.length)];
        for (char letter : piece.toCharArray()) {
            wild(x, STATE, "feed", () -> x.feed(letter));
        }
    }

    private static void wild(ExactTurtle x, List<Class<?>> allowed, String what, Check.Call call) {
        String before = state(x);
        Check.same(what + " throws what the document names and changes nothing then", true, () -> {
            try {
                call.answer();
                return true;
            } catch (RuntimeException e) {
                boolean thrownHere = e.getStackTrace()[0].getClassName().startsWith("ExactTurtle");
                return allowed.contains(e.getClass()) && thrownHere && state(x).equals(before);
            }
        });
    }

    /** What can be asked of a turtle without an exception. */
    private static String state(ExactTurtle x) {
        StringBuilder state = new StringBuilder();
        int last = x.points() - 1;
        for (int part = 0; part < 4; part++) {
            state.append(x.point(last, part)).append(' ').append(x.point(last / 2, part)).append(' ');
        }
        for (int i = 0; i < 8; i++) {
            state.append(x.traceAt(i)).append(' ').append(x.calls((char) ('A' + i))).append(' ');
        }
        state.append(last).append(' ').append(x.direction()).append(' ').append(x.turning());
        return state.append(' ').append(x.isClosed()).toString();
    }
}

import java.util.ArrayList;
import java.util.List;
import java.util.NoSuchElementException;

/** What the tests of single sentences of the document use. */
abstract class Boundary {
    static final Class<?> ARGUMENT = IllegalArgumentException.class;
    static final Class<?> STATE = IllegalStateException.class;
    static final Class<?> INDEX = IndexOutOfBoundsException.class;
    static final Class<?> NONE = NoSuchElementException.class;
    static final Class<?> RANGE = ArithmeticException.class;
    static final int[] DIRECTIONS = {4, 6, 8, 12};
    private static final int LOWEST = Integer.MIN_VALUE;
    private static final int GREATEST = Integer.MAX_VALUE;

    interface Make {
        ExactTurtle make();
    }

    interface Act {
        Object on(ExactTurtle x);
    }

    /** The checks that follow belong to these words of a section of the document. */
    static void about(String section, String words) {
        Check.topic(section + ", \"" + words + "\": ");
        Check.same("the document says so", true, () -> Document.name(section, words));
    }

    static void about(int promise, String words) {
        about("Promise " + promise, words);
    }

    /** All near numbers outside a range, and the farthest ones. */
    static int[] outside(int first, int last) {
        return new int[] {first - 1, last + 1, first - 2, last + 2, first - 1000, last + 1000, LOWEST, LOWEST + 1,
            GREATEST - 1, GREATEST};
    }

    /** Characters that are no names of procedures, the nearest ones first. */
    static char[] noNames() {
        return new char[] {'@', 'I', 'Z', 'a', 'h', '0', '4', ' ', (char) 0, (char) (256 + 'A'), (char) 65313, (char) 65535};
    }

    static ExactTurtle turtle(int directions) {
        ExactTurtle x = new ExactTurtle();
        x.setDirections(directions);
        return x;
    }

    /** A turtle that holds something wherever it can, whose last run was that of a text; nothing is fed. */
    static ExactTurtle filled(int directions, String text) {
        ExactTurtle x = turtle(directions);
        Check.define(x, 'A', "f2");
        Check.define(x, 'C', "d");
        x.saveProcedures();
        x.undefine('C');
        Check.define(x, 'A', "f1l1");
        Check.define(x, 'B', "2(A)u");
        Check.define(x, 'H', "");
        x.createTrace(5);
        Check.run(x, "f1l1f1");
        x.shortestWalk(8);
        Check.runRight(x, text);
        return x;
    }

    static ExactTurtle filled() {
        return filled(12, "BHf0l1uf2df3l4H");
    }

    static ExactTurtle filledAndFed() {
        return Check.feed(filled(), "l1A");
    }

    /** A call throws what is due and leaves the state unchanged. */
    static void refuses(Make made, Class<?> due, String what, Act call) {
        ExactTurtle x = made.make();
        Check.raises(what, due, () -> call.on(x));
        unchanged(made, x, what);
    }

    static void refuses(Class<?> due, String what, Act call) {
        refuses(Boundary::filledAndFed, due, what, call);
    }

    /** A call answers, and leaves the state unchanged. */
    static void answersOnly(Make made, Object due, String what, Act call) {
        ExactTurtle x = made.make();
        Check.same(what, due, () -> call.on(x));
        unchanged(made, x, what);
    }

    /** A run throws what is due, and all but its text stays as it was before. */
    static void runFails(Class<?> due, String text) {
        refuses(Boundary::filled, due, "run " + text, x -> Check.run(x, text));
    }

    static void runFails(Make made, Class<?> due, String text) {
        refuses(made, due, "run " + text, x -> Check.run(x, text));
    }

    /** Runs a text whether it fails or not: what comes after it is asked. */
    static void runAnyhow(ExactTurtle x, String text) {
        try {
            Check.run(x, text);
        } catch (RuntimeException e) {
            return;
        }
    }

    /** A text is wrong for run and define, and all but the text stays as it was before. */
    static void isWrong(String text, int position) {
        answersOnly(Boundary::filled, -100 - position, "run " + text, x -> Check.run(x, text));
        answersOnly(Boundary::filled, -100 - position, "define " + text, x -> Check.define(x, 'A', text));
    }

    /** A text is right for run and define. */
    static void isRight(String text, int commands, int basics) {
        Check.same("define " + text, commands, () -> Check.define(new ExactTurtle(), 'A', text));
        Check.same("run " + text, basics, () -> Check.run(new ExactTurtle(), text));
    }

    private static void unchanged(Make made, ExactTurtle x, String what) {
        List<String> before = everything(made.make());
        List<String> after = everything(x);
        Check.same("unchanged by " + what, "", () -> firstDifference(before, after));
    }

    static String firstDifference(List<String> before, List<String> after) {
        for (int i = 0; i < before.size() && i < after.size(); i++) {
            if (!before.get(i).equals(after.get(i))) {
                return before.get(i) + " became " + after.get(i);
            }
        }
        return before.size() == after.size() ? "" : before.size() + " answers became " + after.size();
    }

    /** What can be asked of a turtle, and then, by runs of what is fed and of all procedures, what cannot be asked. */
    static List<String> everything(ExactTurtle x) {
        List<String> answers = new ArrayList<>();
        addTrack(x, answers);
        addAnalyses(x, answers);
        for (int i = 0; i < 9; i++) {
            int n = i;
            add(answers, "outputAt " + n, () -> x.outputAt(n));
            add(answers, "traceAt " + n, () -> x.traceAt(n));
            add(answers, "called " + n, () -> x.called(n));
            add(answers, "calls " + n, () -> x.calls((char) ('A' + n)));
        }
        add(answers, "feed", () -> x.feed('u'));
        add(answers, "run", () -> x.run());
        addTrack(x, answers);
        addProcedures(x, answers);
        for (char name = 'A'; name <= 'H'; name++) {
            char n = name;
            add(answers, "undefine " + n, () -> x.undefine(n));
        }
        add(answers, "restoreProcedures", () -> x.restoreProcedures());
        addProcedures(x, answers);
        add(answers, "traceAt", () -> x.traceAt(0));
        add(answers, "setDirections", () -> x.setDirections(4));
        return answers;
    }

    private static void addTrack(ExactTurtle x, List<String> answers) {
        add(answers, "points", () -> x.points());
        for (int i = 0; i < Math.min(x.points(), 9); i++) {
            int n = i;
            for (int part = 0; part < 4; part++) {
                int p = part;
                add(answers, "point " + n + ", " + p, () -> x.point(n, p));
            }
            add(answers, "isDrawn " + n, () -> x.isDrawn(n));
        }
        add(answers, "direction", () -> x.direction());
        add(answers, "turning", () -> x.turning());
    }

    private static void addAnalyses(ExactTurtle x, List<String> answers) {
        add(answers, "isClosed", () -> x.isClosed());
        add(answers, "closingRepeats", () -> x.closingRepeats());
        add(answers, "area 0", () -> x.area(0));
        add(answers, "area 1", () -> x.area(1));
        add(answers, "meetings", () -> x.meetings());
        add(answers, "crossings", () -> x.crossings());
        add(answers, "firstMeeting", () -> x.firstMeeting());
        for (int side = 0; side < 4; side++) {
            int s = side;
            add(answers, "extreme " + s + ", 0", () -> x.extreme(s, 0));
            add(answers, "extreme " + s + ", 1", () -> x.extreme(s, 1));
        }
        add(answers, "corners", () -> x.corners());
        add(answers, "symmetry", () -> x.symmetry());
        add(answers, "isMirrored", () -> x.isMirrored());
        add(answers, "shortestText", () -> x.shortestText());
    }

    private static void addProcedures(ExactTurtle x, List<String> answers) {
        for (char name = 'A'; name <= 'H'; name++) {
            String text = "" + name;
            add(answers, "run " + text, () -> Check.run(x, text));
            add(answers, "points of " + text, () -> x.points());
            add(answers, "shortestText of " + text, () -> x.shortestText());
        }
    }

    private static void add(List<String> answers, String call, Check.Call asked) {
        String answer;
        try {
            answer = String.valueOf(asked.answer());
        } catch (RuntimeException e) {
            answer = "throws " + e.getClass().getSimpleName();
        }
        answers.add(call + ": " + answer);
    }
}

import java.util.NoSuchElementException;

/** What the document promises, promise by promise, with its edges and with wrong inputs. */
public final class PromisesTest {
    private static final Class<?> ARGUMENT = IllegalArgumentException.class;
    private static final Class<?> STATE = IllegalStateException.class;
    private static final Class<?> INDEX = IndexOutOfBoundsException.class;
    private static final Class<?> NONE = NoSuchElementException.class;
    private static final Class<?> RANGE = ArithmeticException.class;

    public static void main(String[] args) {
        constants();
        newObject();
        setDirections();
        feed();
        define();
        syntaxErrors();
        undefine();
        run();
        limitsOfRuns();
        callsThatDoNothing();
        chainsThatGetTooDeep();
        orderOfFailures();
        point();
        points();
        isDrawn();
        direction();
        turning();
        isClosed();
        closingRepeats();
        area();
        meetings();
        crossings();
        firstMeeting();
        extreme();
        corners();
        symmetry();
        isMirrored();
        shortestWalk();
        outputAt();
        shortestText();
        called();
        calls();
        createTrace();
        traceAt();
        saveProcedures();
        restoreProcedures();
        Check.end();
    }

    private static void constants() {
        Check.same("NO_TRACE", -11, () -> ExactTurtle.NO_TRACE);
        Check.same("NO_INDEX", -13, () -> ExactTurtle.NO_INDEX);
        Check.same("NEGATIVE_SIZE", -14, () -> ExactTurtle.NEGATIVE_SIZE);
    }

    private static void newObject() {
        ExactTurtle x = new ExactTurtle();
        sameAsAfterEmptyRun("new", x);
        Check.raises("new outputAt", INDEX, () -> x.outputAt(0));
        Check.same("new traceAt", ExactTurtle.NO_TRACE, () -> x.traceAt(0));
        Check.raises("new restoreProcedures", STATE, () -> x.restoreProcedures());
        Check.same("new saveProcedures", 0, () -> x.saveProcedures());
        Check.same("new buffer", 1, () -> x.feed('u'));
        Check.same("new setDirections", 4, () -> x.setDirections(4));
        for (char name = 'A'; name <= 'H'; name++) {
            char n = name;
            Check.same("new undefine " + n, false, () -> x.undefine(n));
        }
    }

    private static void sameAsAfterEmptyRun(String what, ExactTurtle x) {
        Check.same(what + " points", 1, () -> x.points());
        for (int part = 0; part < 4; part++) {
            int p = part;
            Check.same(what + " point 0, " + p, 0, () -> x.point(0, p));
        }
        Check.raises(what + " isDrawn", INDEX, () -> x.isDrawn(0));
        Check.same(what + " direction", 0, () -> x.direction());
        Check.same(what + " turning", 0, () -> x.turning());
        Check.same(what + " isClosed", true, () -> x.isClosed());
        Check.same(what + " closingRepeats", 1, () -> x.closingRepeats());
        Check.same(what + " area", 0L, () -> x.area(0));
        Check.same(what + " meetings", 0, () -> x.meetings());
        Check.same(what + " crossings", 0, () -> x.crossings());
        Check.raises(what + " firstMeeting", NONE, () -> x.firstMeeting());
        Check.same(what + " extreme", 0, () -> x.extreme(1, 0));
        Check.same(what + " corners", 0, () -> x.corners());
        Check.raises(what + " symmetry", STATE, () -> x.symmetry());
        Check.raises(what + " isMirrored", STATE, () -> x.isMirrored());
        Check.same(what + " shortestText", 0, () -> x.shortestText());
        Check.raises(what + " called", INDEX, () -> x.called(0));
        Check.same(what + " calls", 0, () -> x.calls('A'));
    }

    private static void setDirections() {
        ExactTurtle x = new ExactTurtle();
        for (int wrong : new int[] {Integer.MIN_VALUE, -4, 0, 3, 5, 7, 9, 10, 11, 13, 24, Integer.MAX_VALUE}) {
            Check.raises("setDirections " + wrong, ARGUMENT, () -> x.setDirections(wrong));
        }
        Check.same("4 to 6", 4, () -> x.setDirections(6));
        Check.same("6 to 8", 6, () -> x.setDirections(8));
        Check.same("8 to 12", 8, () -> x.setDirections(12));
        Check.same("12 to 12", 12, () -> x.setDirections(12));
        Check.define(x, 'A', "f1l1");
        Check.run(x, "AAuf1l2f3l5f2");
        Check.raises("wrong number keeps the track", ARGUMENT, () -> x.setDirections(5));
        Check.same("track kept", 6, () -> x.points());
        x.createTrace(2);
        Check.run(x, "l7A");
        x.shortestWalk(8);
        x.feed('A');
        Check.same("12 to 4", 12, () -> x.setDirections(4));
        sameAsAfterEmptyRun("after setDirections", x);
        Check.same("trace keeps 0", 7, () -> x.traceAt(0));
        Check.same("trace keeps 1", 7, () -> x.traceAt(1));
        Check.same("output stays", 'r', () -> x.outputAt(0));
        Check.same("input and procedures stay", 2, () -> x.run());
        Check.same("pen is down again", true, () -> x.isDrawn(0));
    }

    private static void feed() {
        ExactTurtle x = new ExactTurtle();
        Check.same("feed a letter", 1, () -> x.feed('u'));
        Check.same("feed any character", 2, () -> x.feed((char) 0));
        Check.same("feed a great character", 3, () -> x.feed((char) 65535));
        Check.same("the wrong character", -101, () -> x.run());
        for (int i = 1; i <= 100; i++) {
            int n = i;
            Check.same("feed " + n, n, () -> x.feed('u'));
        }
        Check.raises("feed 101", STATE, () -> x.feed('u'));
        Check.same("all hundred are there", 100, () -> x.run());
        Check.same("empty after run", 1, () -> x.feed('u'));
    }

    private static void define() {
        ExactTurtle x = new ExactTurtle();
        Check.same("define an empty program", 0, () -> x.define('H'));
        Check.same("the empty one is defined", true, () -> x.undefine('H'));
        Check.same("define counts", 7, () -> Check.define(x, 'A', "f1l2r3ud2(u)"));
        Check.same("define counts nested", 5, () -> Check.define(x, 'B', "0(2(f1A)B)"));
        Check.same("define after error", -103, () -> Check.define(x, 'A', "f1l"));
        Check.same("the buffer is empty after an error", 1, () -> x.feed('A'));
        Check.same("the earlier one stays", 7, () -> x.run());
        Check.same("define in place", 1, () -> Check.define(x, 'A', "f5"));
        Check.run(x, "A");
        Check.same("the new one runs", 10, () -> x.point(1, 0));
        Check.feed(x, "f3");
        for (char wrong : new char[] {'@', 'I', 'a', 'h', '0', (char) 0, (char) 321, (char) 65535}) {
            Check.raises("define " + (int) wrong, ARGUMENT, () -> x.define(wrong));
        }
        Check.same("the buffer is kept", 1, () -> x.define('H'));
        Check.run(x, "H");
        Check.same("the kept program", 6, () -> x.point(1, 0));
        Check.same("define does not run", 2, () -> x.points());
        Check.feed(x, ")");
        Check.raises("the name before the program", ARGUMENT, () -> x.define('I'));
        Check.same("the wrong text is kept", -100, () -> x.define('A'));
    }

    private static void syntaxErrors() {
        error("f", 1);
        error("l", 1);
        error("r", 1);
        error("fu", 1);
        error("f1x", 2);
        error("x", 0);
        error("F1", 2);
        error("U", 0);
        error(" ", 0);
        error("f 1", 1);
        error("I", 0);
        error("@", 0);
        error("(", 0);
        error(")", 0);
        error("()", 0);
        error("f1)", 2);
        error("2", 1);
        error("2u", 1);
        error("2)", 1);
        error("2(", 2);
        error("2(u", 3);
        error("2(u))", 4);
        error("2(3(u)", 6);
        error("f12345", 6);
        error("f12345u", 6);
        error("12345(u)", 4);
        error("f123412345(u)", 9);
        error("f12(u)", 3);
        error("u1", 2);
        error("-1(u)", 0);
        error("f-1", 1);
        error("1(1(1(1(1(1(1", 13);
        error("1(1(1(1(1(1(1(", 13);
        error("1(1(1(1(1(1(1(u)))))))", 13);
        error("1(1(1(1(1(1(1x", 13);
        error("1(1(1(1(1(1(f", 13);
        error("f1" + (char) ('1' + 256), 2);
        error("u" + (char) 1638, 1);
        right("", 0);
        right("f12345(u)", 6);
        right("f0000", 1);
        right("2()", 0);
        right("0()", 0);
        right("0000(u)", 0);
        right("0002(u)", 2);
        right("1(1(1(1(1(1(u))))))", 1);
        right("1(1(1(1(1(1(u))))))1(u)", 2);
        right("1(u)1(u)1(u)1(u)1(u)1(u)1(u)1(u)", 8);
        right("ud2(l1r2)", 6);
    }

    private static void error(String text, int position) {
        ExactTurtle x = new ExactTurtle();
        Check.same("run " + text, -100 - position, () -> Check.run(x, text));
        Check.same("define " + text, -100 - position, () -> Check.define(x, 'A', text));
        Check.same("not defined by " + text, false, () -> x.undefine('A'));
    }

    private static void right(String text, int basics) {
        ExactTurtle x = new ExactTurtle();
        Check.same("run " + text, basics, () -> Check.run(x, text));
    }

    private static void undefine() {
        ExactTurtle x = new ExactTurtle();
        Check.same("undefine what is undefined", false, () -> x.undefine('C'));
        Check.define(x, 'C', "u");
        Check.define(x, 'D', "u");
        Check.same("undefine what is defined", true, () -> x.undefine('C'));
        Check.same("undefine it again", false, () -> x.undefine('C'));
        Check.raises("it cannot be called", NONE, () -> Check.run(x, "C"));
        Check.same("others stay", 1, () -> Check.run(x, "D"));
        for (char wrong : new char[] {'@', 'I', 'c', (char) 0, (char) 323}) {
            Check.raises("undefine " + (int) wrong, ARGUMENT, () -> x.undefine(wrong));
        }
    }

    private static void run() {
        ExactTurtle x = new ExactTurtle();
        Check.same("run nothing", 0, () -> x.run());
        Check.same("run all kinds", 7, () -> Check.run(x, "f1ul1f0dr2f3"));
        Check.same("points of it", 3, () -> x.points());
        Check.same("repeated", 9, () -> Check.run(x, "3(f1l1r1)"));
        Check.same("nested", 7, () -> Check.run(x, "u2(3(f1))0(ddd)"));
        Check.define(x, 'A', "f1B");
        Check.define(x, 'B', "2(l1)");
        Check.same("procedures", 6, () -> Check.run(x, "2(A)"));
        Check.same("its turns", 4, () -> x.turning());
        Check.same("error", -103, () -> Check.run(x, "f1u)"));
        Check.same("track stays after an error", 3, () -> x.points());
        Check.same("calls stay after an error", 2, () -> x.calls('A'));
        Check.same("empty after an error", 1, () -> x.feed('u'));
        Check.same("a run begins anew", 1, () -> x.run());
        Check.same("track of one point", 1, () -> x.points());
        Check.same("turns anew", 0, () -> x.turning());
        Check.same("the pen is down again", 1, () -> Check.run(x, "f1"));
        Check.same("drawn", true, () -> x.isDrawn(0));
        Check.run(x, "f2uA");
        Check.raises("undefined", NONE, () -> Check.run(x, "l1f3f3f3C"));
        sameAfterFailure(x);
        Check.raises("range", RANGE, () -> Check.run(x, "l1f3f3f9999"));
        sameAfterFailure(x);
        Check.raises("too many", STATE, () -> Check.run(x, "l1f3u301(u)"));
        sameAfterFailure(x);
        Check.same("empty after an exception", 1, () -> x.feed('u'));
    }

    private static void sameAfterFailure(ExactTurtle x) {
        Check.same("after failure points", 3, () -> x.points());
        Check.same("after failure point", 4, () -> x.point(1, 0));
        Check.same("after failure isDrawn 0", true, () -> x.isDrawn(0));
        Check.same("after failure isDrawn 1", false, () -> x.isDrawn(1));
        Check.same("after failure turning", 2, () -> x.turning());
        Check.same("after failure calls", 1, () -> x.calls('A'));
        Check.same("after failure called", 'A', () -> x.called(0));
        Check.same("after failure called 1", 'B', () -> x.called(1));
        Check.same("after failure shortestText", 9, () -> x.shortestText());
    }

    private static void limitsOfRuns() {
        ExactTurtle x = new ExactTurtle();
        Check.same("300 basic commands", 300, () -> Check.run(x, "300(u)"));
        Check.raises("301 basic commands", STATE, () -> Check.run(x, "301(u)"));
        Check.raises("301 f", STATE, () -> Check.run(x, "u300(f0)"));
        Check.same("2000 rounds", 0, () -> Check.run(x, "2000()"));
        Check.raises("2001 rounds", STATE, () -> Check.run(x, "2001()"));
        Check.same("rounds in rounds", 0, () -> Check.run(x, "40(49())"));
        Check.raises("one round more", STATE, () -> Check.run(x, "1()40(49())"));
        Check.same("rounds that are never begun", 0, () -> Check.run(x, "2000(0(9999()))"));
        Check.raises("9999 rounds", STATE, () -> Check.run(x, "9999()"));
        Check.define(x, 'A', "1000()");
        Check.same("rounds in procedures", 0, () -> Check.run(x, "AA"));
        Check.raises("rounds of the whole run", STATE, () -> Check.run(x, "AA1()"));
        Check.define(x, 'A', "A");
        Check.raises("endless calls", STATE, () -> Check.run(x, "A"));
        Check.define(x, 'A', "0(A)");
        Check.same("calls that never come", 0, () -> Check.run(x, "A"));
        for (char name = 'A'; name < 'H'; name++) {
            Check.define(x, name, "" + (char) (name + 1));
        }
        Check.define(x, 'H', "f1");
        Check.same("8 active calls", 1, () -> Check.run(x, "A"));
        Check.same("8 active calls again", 2, () -> Check.run(x, "AA"));
        Check.define(x, 'H', "2(2(2(2(2(2(u))))))");
        Check.same("parentheses in 8 active calls", 256, () -> Check.run(x, "2(2(1(1(1(1(A))))))"));
        Check.define(x, 'H', "f1A");
        Check.raises("9 active calls", STATE, () -> Check.run(x, "A"));
        Check.same("an undefined call that never comes", 1, () -> {
            x.undefine('H');
            return Check.run(x, "u0(H)");
        });
        Check.same("the greatest part", 1, () -> Check.run(x, "f2500"));
        Check.raises("beyond the greatest part", RANGE, () -> Check.run(x, "f2501"));
        Check.same("the lowest part", 2, () -> Check.run(x, "l2f2500"));
        Check.raises("beyond the lowest part", RANGE, () -> Check.run(x, "l2f2501"));
        Check.raises("beyond in y", RANGE, () -> Check.run(x, "l1f2501"));
        Check.raises("beyond and back", RANGE, () -> Check.run(x, "f2501l2f2501"));
        x.setDirections(12);
        Check.same("factors have the range alone", 2, () -> Check.run(x, "l1f5000"));
        Check.raises("a factor beyond", RANGE, () -> Check.run(x, "l1f5001"));
        Check.raises("a factor of y beyond", RANGE, () -> Check.run(x, "r2f5001"));
    }

    private static void callsThatDoNothing() {
        ExactTurtle x = new ExactTurtle();
        x.define('A');
        String many = "AAAAAAAAAAAAAAAAAAAAAAAAAAAAAAAAAAAAAAAA";
        for (char name = 'B'; name <= 'H'; name++) {
            Check.define(x, name, many.replace('A', (char) (name - 1)));
        }
        Check.same("calls that do nothing", 0, () -> Check.run(x, "D"));
        Check.same("are counted", 64000, () -> x.calls('A'));
        Check.same("in all procedures", 1600, () -> x.calls('B'));
        Check.same("and the outer one", 1, () -> x.calls('D'));
        Check.same("in order", 'A', () -> x.called(3));
        Check.same("very many of them", 0, () -> Check.run(x, "99(G)"));
        Check.same("a number beyond an int", Integer.MAX_VALUE, () -> x.calls('A'));
        Check.same("and one within", 99 * 40 * 40 * 40, () -> x.calls('D'));
        Check.same("at the deepest", 1, () -> Check.run(x, "Hu"));
        Check.define(x, 'A', "u");
        Check.raises("not idle any more", STATE, () -> Check.run(x, "D"));
        Check.define(x, 'A', "0(u)");
        Check.define(x, 'C', "AuBA");
        Check.define(x, 'B', "0(f1)A");
        Check.same("idle among others", 10, () -> Check.run(x, "10(C)"));
        Check.same("idle calls are counted each time", 30, () -> x.calls('A'));
        Check.same("idle calls of idle ones too", 10, () -> x.calls('B'));
        for (char name = 'B'; name < 'H'; name++) {
            Check.define(x, name, "" + (char) (name + 1));
        }
        Check.define(x, 'H', "");
        Check.define(x, 'A', "HB");
        Check.same("idle ones at the eighth level", 0, () -> Check.run(x, "HA"));
        Check.define(x, 'H', "u");
        Check.same("a chain of eight", 2, () -> Check.run(x, "A"));
        Check.define(x, 'H', "A");
        Check.raises("a circle of all", STATE, () -> Check.run(x, "A"));
        Check.define(x, 'G', "");
        Check.define(x, 'H', "");
        Check.define(x, 'A', "GHGHA");
        Check.raises("a circle behind idle ones", STATE, () -> Check.run(x, "A"));
    }

    /** A chain of calls that do nothing ends well in a circle's first rounds, and is then too deep. */
    private static void chainsThatGetTooDeep() {
        for (int chain = 1; chain <= 7; chain++) {
            ExactTurtle x = new ExactTurtle();
            for (int i = 0; i < chain; i++) {
                Check.define(x, (char) ('B' + i), i + 1 < chain ? "" + (char) ('C' + i) : "");
            }
            // The circle's A may come to its f so often before the chain in the next A is too deep.
            int times = 8 - chain;
            int farthest = 2500 / times;
            Check.define(x, 'A', "Bf" + farthest + "A");
            Check.raises("chain of " + chain + " before the range", STATE, () -> Check.run(x, "A"));
            Check.raises("called outside, too", STATE, () -> Check.run(x, "2(B)A"));
            Check.define(x, 'A', "f" + farthest + "BA");
            Check.raises("the range just before a chain of " + chain, RANGE, () -> Check.run(x, "A"));
            Check.define(x, 'A', "f" + 2500 / (times + 1) + "BA");
            Check.raises("chain of " + chain + " just before the range", STATE, () -> Check.run(x, "A"));
            Check.define(x, 'A', "Bf" + (farthest + 1) + "A");
            Check.raises("the range before a chain of " + chain, RANGE, () -> Check.run(x, "BA"));
            Check.same("the chain alone", 0, () -> Check.run(x, "B2(B)"));
        }
        callsSeenWithinMoreAndFewer();
    }

    private static void callsSeenWithinMoreAndFewer() {
        ExactTurtle x = new ExactTurtle();
        Check.define(x, 'H', "");
        Check.define(x, 'G', "HH");
        for (char name = 'A'; name < 'G'; name++) {
            Check.define(x, name, "H" + (char) (name + 1) + "G");
        }
        Check.same("within fewer, more and fewer calls", 1, () -> Check.run(x, "HGAGHAu"));
        Check.same("of G", 16, () -> x.calls('G'));
        Check.same("of H", 2 * 16 + 2 * 6 + 2, () -> x.calls('H'));
    }

    private static void orderOfFailures() {
        ExactTurtle x = new ExactTurtle();
        Check.raises("undefined before too many", NONE, () -> Check.run(x, "9999(D)"));
        Check.raises("too many before the range", STATE, () -> Check.run(x, "300(u)f9999"));
        Check.raises("the run ends at its first failure", RANGE, () -> Check.run(x, "f9999D"));
        Check.raises("and comes to no later call", STATE, () -> Check.run(x, "301(u)D"));
    }

    private static void point() {
        ExactTurtle x = Check.after(4, "f1l1f2l1f3l1f4");
        int[][] want4 = {{0, 0, 0, 0}, {2, 0, 0, 0}, {2, 0, 4, 0}, {-4, 0, 4, 0}, {-4, 0, -4, 0}};
        samePoints("4", want4, x);
        int[][] want6 = {{0, 0, 0, 0}, {2, 0, 0, 0}, {3, 0, 0, 1}, {2, 0, 0, 2}, {0, 0, 0, 2}, {-1, 0, 0, 1}, {0, 0, 0, 0}};
        samePoints("6", want6, Check.after(6, "6(f1l1)"));
        int[][] want8 = {{0, 0, 0, 0}, {2, 0, 0, 0}, {2, 1, 0, 1}, {2, 1, 2, 1}, {2, 0, 2, 2}, {0, 0, 2, 2}, {0, -1, 2, 1},
            {0, -1, 0, 1}, {0, 0, 0, 0}};
        samePoints("8", want8, Check.after(8, "8(f1l1)"));
        int[][] want12 = {{0, 0, 0, 0}, {2, 0, 0, 0}, {2, 1, 1, 0}, {3, 1, 1, 1}, {3, 1, 3, 1}, {2, 1, 3, 2}, {2, 0, 4, 2},
            {0, 0, 4, 2}, {0, -1, 3, 2}, {-1, -1, 3, 1}, {-1, -1, 1, 1}, {0, -1, 1, 0}, {0, 0, 0, 0}};
        samePoints("12", want12, Check.after(12, "12(f1l1)"));
        for (int wrong : new int[] {Integer.MIN_VALUE, -1, 5, Integer.MAX_VALUE}) {
            Check.raises("point " + wrong, INDEX, () -> x.point(wrong, 0));
        }
        for (int wrong : new int[] {Integer.MIN_VALUE, -1, 4, Integer.MAX_VALUE}) {
            Check.raises("part " + wrong, INDEX, () -> x.point(0, wrong));
        }
        ExactTurtle shorter = Check.after(4, "f1f1f1");
        Check.run(shorter, "f1");
        Check.raises("points of an earlier run are gone", INDEX, () -> shorter.point(2, 0));
    }

    private static void samePoints(String what, int[][] want, ExactTurtle x) {
        for (int i = 0; i < want.length; i++) {
            for (int part = 0; part < 4; part++) {
                int n = i;
                int p = part;
                Check.same("points of " + what + ": " + n + ", " + p, want[n][p], () -> x.point(n, p));
            }
        }
        Check.same("points of " + what, want.length, () -> x.points());
    }

    private static void points() {
        Check.same("points with f0", 3, () -> Check.after(4, "f0f1f0000uf2l1").points());
        Check.same("300 segments", 301, () -> Check.after(4, "300(f1)").points());
        Check.same("their last point", 600, () -> Check.after(4, "300(f1)").point(300, 0));
    }

    private static void isDrawn() {
        ExactTurtle x = Check.after(4, "f1uf1f0f1df1udf1uuf1ddf1u");
        boolean[] want = {true, false, false, true, true, false, true};
        for (int i = 0; i < want.length; i++) {
            int n = i;
            Check.same("isDrawn " + n, want[n], () -> x.isDrawn(n));
        }
        for (int wrong : new int[] {Integer.MIN_VALUE, -1, 7, Integer.MAX_VALUE}) {
            Check.raises("isDrawn " + wrong, INDEX, () -> x.isDrawn(wrong));
        }
        Check.same("a run begins with the pen down", true, () -> {
            Check.run(x, "f1");
            return x.isDrawn(0);
        });
    }

    private static void direction() {
        Check.same("direction l", 1, () -> Check.after(4, "l5").direction());
        Check.same("direction r", 3, () -> Check.after(4, "r1").direction());
        Check.same("direction r 12", 11, () -> Check.after(12, "r9999l2").direction());
        Check.same("direction whole", 0, () -> Check.after(8, "l9992f3l8").direction());
        Check.same("direction 6", 5, () -> Check.after(6, "l11").direction());
    }

    private static void turning() {
        Check.same("turning l", 9999, () -> Check.after(4, "l9999").turning());
        Check.same("turning r", -9999, () -> Check.after(6, "r9999").turning());
        Check.same("turning both", 3, () -> Check.after(8, "l5f2r4l2").turning());
        Check.same("turning much", 300 * 9999, () -> Check.after(8, "300(l9999)").turning());
    }

    private static void isClosed() {
        Check.same("closed square", true, () -> Check.after(4, "4(f2l1)").isClosed());
        Check.same("closed, not smooth", true, () -> Check.after(4, "f1l2f1").isClosed());
        Check.same("closed by the pen up", true, () -> Check.after(4, "f1ul2f1").isClosed());
        Check.same("open", false, () -> Check.after(4, "f1").isClosed());
        Check.same("open in y", false, () -> Check.after(4, "l1f1").isClosed());
        Check.same("open by a root", false, () -> Check.after(12, "l1f4l5f7").isClosed());
        Check.same("open by a root of y", false, () -> Check.after(6, "l1f2l1f2l2f4").isClosed());
        Check.same("closed without segments", true, () -> Check.after(4, "l1").isClosed());
    }

    private static void closingRepeats() {
        Check.same("repeats of nothing", 1, () -> Check.after(4, "").closingRepeats());
        Check.same("repeats of u", 1, () -> Check.after(4, "u").closingRepeats());
        Check.same("repeats of a square", 1, () -> Check.after(4, "4(f2l1)").closingRepeats());
        Check.same("repeats of f1l1", 4, () -> Check.after(4, "f1l1").closingRepeats());
        Check.same("repeats of f1l2", 2, () -> Check.after(4, "f1l2").closingRepeats());
        Check.same("repeats of l1", 4, () -> Check.after(4, "l1").closingRepeats());
        Check.same("repeats of l2 by 8", 4, () -> Check.after(8, "f3l2").closingRepeats());
        Check.same("repeats of l5 by 12", 12, () -> Check.after(12, "f1l5").closingRepeats());
        Check.same("repeats of l8 by 12", 3, () -> Check.after(12, "f1l8").closingRepeats());
        Check.same("repeats of l9 by 12", 4, () -> Check.after(12, "f1r3").closingRepeats());
        Check.same("repeats of l4 by 6", 3, () -> Check.after(6, "f1l4").closingRepeats());
        Check.same("closed, but turned", 4, () -> Check.after(4, "f1l2f1r1").closingRepeats());
        Check.raises("straight on", NONE, () -> Check.after(4, "f1").closingRepeats());
        Check.raises("turned whole", NONE, () -> Check.after(8, "f1l8").closingRepeats());
        Check.raises("only y", NONE, () -> Check.after(4, "l1f1r1").closingRepeats());
    }

    private static void area() {
        Check.same("area to the right", -32L, () -> Check.after(4, "4(f2r1)").area(0));
        Check.same("area not drawn", 32L, () -> Check.after(4, "u4(f2l1)").area(0));
        Check.same("area of 8, integer", 16L, () -> Check.after(8, "8(f1l1)").area(0));
        Check.same("area of 8, factor", 16L, () -> Check.after(8, "8(f1l1)").area(1));
        Check.same("area of 12, integer", 48L, () -> Check.after(12, "12(f1l1)").area(0));
        Check.same("area of 12, factor", 24L, () -> Check.after(12, "12(f1l1)").area(1));
        Check.same("area of a great square", 8L * 2500 * 2500, () -> Check.after(4, "4(f2500l1)").area(0));
        Check.same("area twice round", 64L, () -> Check.after(4, "8(f2l1)").area(0));
        Check.same("area beyond an int", 35L * 8 * 5000 * 5000,
                () -> Check.after(4, "l2f2500l1f2500l000135(4(f5000l1))l1f2500r1f2500").area(0));
        Check.same("area of an eight", 0L, () -> Check.after(4, "4(f1l1)4(f1r1)").area(0));
        Check.same("area of nothing", 0L, () -> new ExactTurtle().area(1));
        Check.same("closed, not smooth", 0L, () -> Check.after(4, "f1l2f1").area(0));
        for (int wrong : new int[] {Integer.MIN_VALUE, -1, 2, Integer.MAX_VALUE}) {
            Check.raises("area " + wrong, ARGUMENT, () -> new ExactTurtle().area(wrong));
            Check.raises("area open " + wrong, ARGUMENT, () -> Check.after(4, "f1").area(wrong));
        }
        Check.raises("area open", STATE, () -> Check.after(4, "f1").area(0));
    }

    private static void meetings() {
        met("no meeting", 0, 4, "f2l1f2l1f2");
        met("a closed square", 0, 4, "4(f2l1)");
        met("a square and its end", 2, 4, "f2l1f2l1f2l1f2f1");
        met("two rounds of a square", 12, 4, "8(f2l1)");
        met("crossing", 1, 4, "f2l1f1l1f1l1f2");
        met("touching in the middle", 1, 4, "f2l1f1l1f1l1f1");
        met("touching at a start", 1, 4, "f1l1f1l1f1l1f1l1uf2");
        met("not drawn", 0, 4, "f2l1f1l1uf1l1f2");
        met("the first is not drawn", 0, 4, "uf2dl1f1l1f1l1f2");
        met("there and back again", 1, 4, "f1l2f2l2f3");
        met("back, consecutive", 0, 4, "f3l2f2");
        met("on one line, apart", 0, 4, "f2uf2df2uf3l2df1");
        met("on one line, within", 1, 4, "f6ul2f1df1");
        met("on one line, meeting at an end", 1, 4, "f2uf1l2df1");
        met("on one line, apart on the right", 0, 4, "f2uf3l2df1");
        met("parallel", 0, 4, "f3l1f1l1f3");
        met("the star of 8", 16, 8, "8(f9l3)");
        met("the star of 12", 48, 12, "12(f9l5)");
        met("the first and the last of an open track", 1, 4, "f3l1f1l1f1l1f1");
        ExactTurtle y = new ExactTurtle();
        for (int i = 0; i < 3; i++) {
            Check.run(y, "f2l1f1l1f1l1f2");
            Check.same("each run anew", 1, () -> y.meetings());
            Check.same("each run anew, crossings", 1, () -> y.crossings());
            Check.run(y, "f1");
            Check.same("each run anew, without", 0, () -> y.meetings());
            Check.same("each run anew, without crossings", 0, () -> y.crossings());
            Check.raises("each run anew, without a first", NONE, () -> y.firstMeeting());
            Check.run(y, "f1l2f2l2f3");
            Check.same("each run anew, meetings alone", 1, () -> y.meetings());
            Check.same("each run anew, no crossings", 0, () -> y.crossings());
            Check.run(y, "f1f2l1f1l1f1l1f2");
            Check.same("each run anew, another first", 1004, () -> y.firstMeeting());
            y.setDirections(4);
            Check.same("new directions anew", 0, () -> y.meetings());
        }
        Check.same("again after a failure", 1, () -> {
            ExactTurtle x = Check.after(4, "f2l1f1l1f1l1f2");
            x.meetings();
            Check.run(x, "f");
            return x.meetings();
        });
    }

    private static void met(String what, int want, int directions, String text) {
        Check.same("meetings: " + what, want, () -> Check.after(directions, text).meetings());
    }

    private static void crossings() {
        crossed("crossing", 1, 4, "f2l1f1l1f1l1f2");
        crossed("touching from below", 0, 4, "f2l1f1l1f1l1f1");
        crossed("on one line", 0, 4, "f6ul2f1df1");
        crossed("through a corner", 0, 4, "f1f1l1f1l1f1l1f2");
        crossed("not drawn", 0, 4, "f2l1f1l1f1l1uf2");
        crossed("the star of 8", 16, 8, "8(f9l3)");
        crossed("the star of 12", 48, 12, "12(f9l5)");
        // An upright line at 41 * sqrt(3), a little more than 71, and one at 56 * sqrt(3), a little less than 97.
        crossed("just missed", 0, 12, "ul1f82r4df82ur4f82r5df71");
        crossed("clearly crossed", 1, 12, "ul1f82r4df82ur4f82r5df72");
        crossed("just crossed", 1, 12, "ul1f112r4df112ur4f112r5df97");
        crossed("clearly missed", 0, 12, "ul1f112r4df112ur4f112r5df96");
        crossed("nothing", 0, 4, "");
        crossed("no two rounds", 0, 4, "8(f2l1)");
    }

    private static void crossed(String what, int want, int directions, String text) {
        Check.same("crossings: " + what, want, () -> Check.after(directions, text).crossings());
    }

    private static void firstMeeting() {
        Check.same("the first crossing", 3, () -> Check.after(4, "f2l1f1l1f1l1f2").firstMeeting());
        Check.same("numbers of all segments", 1004, () -> Check.after(4, "uf1df2l1f1l1f1l1f2").firstMeeting());
        Check.same("the lower number first", 6, () -> Check.after(4, "f1f2l1f1l1f1l1f2r1f2r1f2").firstMeeting());
        Check.same("then the higher number", 3, () -> Check.after(4, "8(f2l1)").firstMeeting());
        Check.same("great numbers", 290292, () -> Check.after(4, "u290(f1)df1uf1l2df2").firstMeeting());
        Check.raises("no meeting", NONE, () -> Check.after(4, "4(f2l1)").firstMeeting());
        Check.raises("none drawn", NONE, () -> Check.after(4, "u8(f2l1)").firstMeeting());
    }

    private static void extreme() {
        ExactTurtle x = Check.after(4, "f3l1f2l1f4l1f5");
        sameExtreme(x, 0, -2, 0);
        sameExtreme(x, 1, 6, 0);
        sameExtreme(x, 2, -6, 0);
        sameExtreme(x, 3, 4, 0);
        ExactTurtle y = Check.after(8, "8(f1l1)");
        sameExtreme(y, 0, 0, -1);
        sameExtreme(y, 1, 2, 1);
        sameExtreme(y, 2, 0, 0);
        sameExtreme(y, 3, 2, 2);
        // 194 is a little more than 112 * sqrt(3), 142 a little less than 82 * sqrt(3).
        sameExtreme(Check.after(12, "f97l6f97l7f112"), 1, 194, 0);
        sameExtreme(Check.after(12, "l1f112l6f112l5f97"), 1, 194, 0);
        sameExtreme(Check.after(12, "f71l6f71l7f82"), 1, 0, 82);
        sameExtreme(Check.after(12, "l1f82l6f82l5f71"), 1, 0, 82);
        sameExtreme(Check.after(12, "l6f97l6f97l7f112l6f112l4f112"), 0, -194, 0);
        sameExtreme(Check.after(12, "l6f71l6f71l5f82"), 0, 0, -82);
        sameExtreme(Check.after(12, "l3f97l6f97l5f112"), 3, 194, 0);
        sameExtreme(Check.after(12, "r3f71l6f71l5f82"), 2, 0, -82);
        sameExtreme(Check.after(12, "r3f97l6f97l7f112"), 2, -194, 0);
        for (int wrong : new int[] {Integer.MIN_VALUE, -1, 4, Integer.MAX_VALUE}) {
            Check.raises("extreme side " + wrong, ARGUMENT, () -> x.extreme(wrong, 0));
        }
        for (int wrong : new int[] {Integer.MIN_VALUE, -1, 2, Integer.MAX_VALUE}) {
            Check.raises("extreme part " + wrong, ARGUMENT, () -> x.extreme(0, wrong));
        }
    }

    private static void sameExtreme(ExactTurtle x, int side, int integer, int factor) {
        Check.same("extreme " + side + ", 0", integer, () -> x.extreme(side, 0));
        Check.same("extreme " + side + ", 1", factor, () -> x.extreme(side, 1));
    }

    private static void corners() {
        Check.same("corners of a square", 4, () -> Check.after(4, "4(f2l1)").corners());
        Check.same("corners of joined segments", 4, () -> Check.after(4, "4(f1f0uf1l1)").corners());
        Check.same("corners that turn away", 4, () -> Check.after(4, "4(f1l3r2)").corners());
        Check.same("corners, started in a side", 4, () -> Check.after(4, "f1l1f2l1f2l1f2l1f1").corners());
        Check.same("corners there and back", 2, () -> Check.after(4, "f1l2f1l2").corners());
        Check.same("corners, started aside", 4, () -> Check.after(4, "l1f1l1f1l1f1l1f1").corners());
        Check.same("corners without segments", 0, () -> Check.after(4, "ul4f0").corners());
        Check.raises("corners of an open track", STATE, () -> Check.after(4, "f1").corners());
        Check.raises("corners without smoothness", STATE, () -> Check.after(4, "f1l2f1").corners());
        Check.raises("corners turned on the spot", STATE, () -> Check.after(4, "l1").corners());
    }

    private static void symmetry() {
        Check.same("symmetry of a rectangle", 2, () -> Check.after(4, "2(f2l1f3l1)").symmetry());
        Check.same("symmetry of a square in parts", 4, () -> Check.after(4, "f1l1f2l1f1f1l1f2l1f1").symmetry());
        Check.same("symmetry of a triangle", 3, () -> Check.after(6, "3(f1l2)").symmetry());
        Check.same("symmetry of 12", 12, () -> Check.after(12, "12(f1l5)").symmetry());
        Check.same("symmetry of lengths", 3, () -> Check.after(6, "3(f1l1f2l1)").symmetry());
        Check.same("symmetry of a trapezium", 1, () -> Check.after(6, "f2l2f1l1f1l1f1l2").symmetry());
        Check.same("symmetry of turns", 2, () -> Check.after(6, "2(f1l1f1l2)").symmetry());
        Check.same("symmetry of two sides", 2, () -> Check.after(4, "f1l2f1l2").symmetry());
        Check.same("symmetry not drawn", 4, () -> Check.after(4, "f2l1u3(f2l1)").symmetry());
        Check.raises("symmetry without a corner", STATE, () -> Check.after(4, "u").symmetry());
        Check.raises("symmetry of an open track", STATE, () -> Check.after(4, "f1").symmetry());
        Check.raises("symmetry without smoothness", STATE, () -> Check.after(4, "f1l2f1").symmetry());
    }

    private static void isMirrored() {
        Check.same("mirror of a square", true, () -> Check.after(4, "4(f2l1)").isMirrored());
        Check.same("mirror of a rectangle", true, () -> Check.after(4, "2(f2l1f3l1)").isMirrored());
        Check.same("mirror of a trapezium", true, () -> Check.after(6, "f2l2f1l1f1l1f1l2").isMirrored());
        String[] startsOfATrapezium = {"f1l2f2l2f1l1f1l1", "f1l1f1l2f2l2f1l1", "f1l1f1l1f1l2f2l2"};
        for (String start : startsOfATrapezium) {
            Check.same("mirror of a trapezium " + start, true, () -> Check.after(6, start).isMirrored());
        }
        Check.same("mirror of a parallelogram", false, () -> Check.after(6, "2(f1l1f2l2)").isMirrored());
        Check.same("mirror of a rhombus", true, () -> Check.after(6, "2(f1l1f1l2)").isMirrored());
        Check.same("mirror of an L", true, () -> Check.after(4, "f2l1f1l1f1r1f1l1f1l1f2l1").isMirrored());
        Check.same("mirror of a long L", false, () -> Check.after(4, "f3l1f1l1f2r1f1l1f1l1f2l1").isMirrored());
        Check.same("mirror of an S", false, () -> Check.after(4, "2(f2l1f1r1f1l1f1l1)").isMirrored());
        Check.same("mirror of there and back", true, () -> Check.after(4, "f1l2f1l2").isMirrored());
        Check.raises("mirror without a corner", STATE, () -> Check.after(4, "").isMirrored());
        Check.raises("mirror of an open track", STATE, () -> Check.after(4, "f1").isMirrored());
        Check.raises("mirror without smoothness", STATE, () -> Check.after(4, "f1l2f1").isMirrored());
    }

    private static void shortestWalk() {
        walk("", 4, "", 0);
        walk("f", 4, "f1", 1);
        walk("f", 4, "f1", 8);
        walk("ffffffff", 4, "f8", 8);
        walk("ll", 4, "l2", 8);
        walk("r", 4, "l3", 8);
        walk("llll", 8, "r4", 8);
        walk("flf", 4, "f1l1f1", 8);
        walk("flfr", 4, "l1f1r1f1", 8);
        walk("flfr", 4, "f1l1f1r1", 4);
        walk("llf", 4, "r2f1", 8);
        walk("rf", 12, "r1f1", 8);
        walk("f", 6, "l1f1r2f1l1", 8);
        walk("", 4, "4(f1l1)", 8);
        walk("llllll", 12, "l6", 8);
        Check.raises("too far", NONE, () -> Check.after(4, "f9").shortestWalk(8));
        Check.raises("too short a limit", NONE, () -> Check.after(4, "f1").shortestWalk(0));
        Check.raises("half a step", NONE, () -> Check.after(6, "l1f1r2f2l1").shortestWalk(3));
        for (int wrong : new int[] {Integer.MIN_VALUE, -1, 9, Integer.MAX_VALUE}) {
            Check.raises("limit " + wrong, ARGUMENT, () -> new ExactTurtle().shortestWalk(wrong));
            Check.raises("limit before the walk " + wrong, ARGUMENT, () -> Check.after(4, "f99").shortestWalk(wrong));
        }
    }

    private static void walk(String want, int directions, String text, int limit) {
        ExactTurtle x = Check.after(directions, text);
        String what = "walk for " + text;
        Check.same(what, want.length(), () -> x.shortestWalk(limit));
        for (int i = 0; i < want.length(); i++) {
            int n = i;
            Check.same(what + " at " + n, want.charAt(n), () -> x.outputAt(n));
        }
        Check.raises(what + " has an end", INDEX, () -> x.outputAt(want.length()));
    }

    private static void outputAt() {
        ExactTurtle x = Check.after(4, "f2");
        x.shortestWalk(2);
        for (int wrong : new int[] {Integer.MIN_VALUE, -1, 2, Integer.MAX_VALUE}) {
            Check.raises("outputAt " + wrong, INDEX, () -> x.outputAt(wrong));
        }
        Check.run(x, "l1f9");
        Check.same("a run keeps the output", 'f', () -> x.outputAt(1));
        Check.raises("no walk", NONE, () -> x.shortestWalk(8));
        Check.same("no walk keeps the output", 'f', () -> x.outputAt(0));
        Check.raises("wrong limit", ARGUMENT, () -> x.shortestWalk(9));
        Check.same("a wrong limit keeps the output", 'f', () -> x.outputAt(1));
        x.run();
        x.shortestWalk(0);
        Check.raises("a walk of no commands empties it", INDEX, () -> x.outputAt(0));
    }

    private static void shortestText() {
        text(0, "");
        text(0, "3()");
        text(1, "u");
        text(2, "f7");
        text(5, "f1234");
        text(3, "f010");
        text(2, "f0000");
        text(2, "uu");
        text(3, "uuu");
        text(4, "uuuu");
        text(4, "9(u)");
        text(5, "10(u)");
        text(4, "f1f1");
        text(5, "f1f1f1");
        text(6, "2(f12)");
        text(7, "2(f123)");
        text(2, "l9");
        text(3, "l10");
        text(3, "l99");
        text(4, "l100");
        text(4, "l999");
        text(5, "l1000");
        text(7, "4(f2l1)");
        text(5, "f1udd");
        text(13, "f1f1f2l3f1f1f2l3l9");
        text(9, "f3uuuuuuuuuul9");
        text(10, "4(5(f1)l1)");
        text(11, "3(uud4(l1))");
        text(200, tenTurns(1000), tenTurns(1010), tenTurns(1020), tenTurns(1030));
        Check.same("forty", 5, () -> Check.after(4, "40(u)").shortestText());
        Check.raises("forty-one", STATE, () -> Check.after(4, "41(u)").shortestText());
        ExactTurtle x = new ExactTurtle();
        Check.define(x, 'A', "f1l1");
        Check.run(x, "4(A)");
        Check.same("without names", 7, () -> x.shortestText());
    }

    private static void text(int want, String... procedures) {
        ExactTurtle x = new ExactTurtle();
        x.setDirections(12);
        StringBuilder names = new StringBuilder();
        for (int i = 0; i < procedures.length; i++) {
            Check.define(x, (char) ('A' + i), procedures[i]);
            names.append((char) ('A' + i));
        }
        Check.run(x, names.toString());
        Check.same("shortestText of " + String.join("", procedures), want, () -> x.shortestText());
    }

    private static String tenTurns(int first) {
        StringBuilder turns = new StringBuilder();
        for (int i = 0; i < 10; i++) {
            turns.append('l').append(first + i);
        }
        return turns.toString();
    }

    private static void called() {
        ExactTurtle x = new ExactTurtle();
        Check.define(x, 'B', "u");
        Check.define(x, 'H', "BC");
        Check.define(x, 'C', "");
        Check.run(x, "2(HCB)0(A)");
        Check.same("called 0", 'H', () -> x.called(0));
        Check.same("called 1", 'B', () -> x.called(1));
        Check.same("called 2", 'C', () -> x.called(2));
        for (int wrong : new int[] {Integer.MIN_VALUE, -1, 3, 8, Integer.MAX_VALUE}) {
            Check.raises("called " + wrong, INDEX, () -> x.called(wrong));
        }
        Check.run(x, "CB");
        Check.same("called anew 0", 'C', () -> x.called(0));
        Check.same("called anew 1", 'B', () -> x.called(1));
        Check.raises("called anew 2", INDEX, () -> x.called(2));
        Check.run(x, "u");
        Check.raises("none called", INDEX, () -> x.called(0));
    }

    private static void calls() {
        ExactTurtle x = new ExactTurtle();
        Check.define(x, 'B', "u");
        Check.define(x, 'H', "BB");
        Check.run(x, "3(HB)");
        Check.same("calls H", 3, () -> x.calls('H'));
        Check.same("calls B", 9, () -> x.calls('B'));
        Check.same("calls A", 0, () -> x.calls('A'));
        for (char wrong : new char[] {'@', 'I', 'b', 'h', (char) 0, (char) (256 + 'B'), (char) 65535}) {
            Check.same("calls " + (int) wrong, 0, () -> x.calls(wrong));
        }
        x.undefine('B');
        Check.same("undefined later", 9, () -> x.calls('B'));
        Check.raises("a run that fails", NONE, () -> Check.run(x, "H"));
        Check.same("calls stay", 3, () -> x.calls('H'));
        Check.run(x, "");
        Check.same("calls of the last run", 0, () -> x.calls('H'));
    }

    private static void createTrace() {
        ExactTurtle x = new ExactTurtle();
        Check.same("no trace yet", -11, () -> x.traceAt(0));
        Check.same("negative without a trace", -14, () -> x.createTrace(-1));
        Check.same("still no trace", -11, () -> x.traceAt(0));
        Check.raises("too great without a trace", ARGUMENT, () -> x.createTrace(301));
        Check.same("still none", -11, () -> x.traceAt(0));
        Check.run(x, "l1");
        Check.same("create", 3, () -> x.createTrace(3));
        Check.same("-1 at first", -1, () -> x.traceAt(0));
        Check.run(x, "l1ul6f2l1");
        Check.same("after the first", 1, () -> x.traceAt(0));
        Check.same("after the second", 1, () -> x.traceAt(1));
        Check.same("after the third", 3, () -> x.traceAt(2));
        Check.same("no fourth", -13, () -> x.traceAt(3));
        Check.run(x, "r2");
        Check.same("first of a short run", 2, () -> x.traceAt(0));
        Check.same("beyond the last command", 1, () -> x.traceAt(1));
        Check.raises("a run that fails", NONE, () -> Check.run(x, "l1l1A"));
        Check.run(x, "l1l1)");
        Check.same("is not traced", 2, () -> x.traceAt(0));
        Check.same("negative", -14, () -> x.createTrace(Integer.MIN_VALUE));
        Check.raises("too great", ARGUMENT, () -> x.createTrace(Integer.MAX_VALUE));
        Check.same("the trace stays", 2, () -> x.traceAt(0));
        Check.same("in place of an earlier one", 300, () -> x.createTrace(300));
        Check.same("with -1 again", -1, () -> x.traceAt(0));
        Check.run(x, "300(l1)");
        Check.same("three hundred", 0, () -> x.traceAt(299));
        Check.same("create an empty one", 0, () -> x.createTrace(0));
        Check.same("which has no index", -13, () -> x.traceAt(0));
        Check.same("shorter, then longer", 2, () -> {
            x.createTrace(1);
            return x.createTrace(2);
        });
        Check.same("-1 in all", -1, () -> x.traceAt(1));
        x.setDirections(12);
        Check.run(x, "r1");
        Check.same("in the new directions", 11, () -> x.traceAt(0));
    }

    private static void traceAt() {
        ExactTurtle x = new ExactTurtle();
        for (int i : new int[] {Integer.MIN_VALUE, -1, 0, Integer.MAX_VALUE}) {
            Check.same("no trace at " + i, ExactTurtle.NO_TRACE, () -> x.traceAt(i));
        }
        x.createTrace(2);
        for (int i : new int[] {Integer.MIN_VALUE, -1, 2, 299, 300, Integer.MAX_VALUE}) {
            Check.same("no index " + i, ExactTurtle.NO_INDEX, () -> x.traceAt(i));
        }
    }

    private static void saveProcedures() {
        ExactTurtle x = new ExactTurtle();
        Check.same("save none", 0, () -> x.saveProcedures());
        Check.define(x, 'A', "u");
        Check.define(x, 'H', "");
        Check.same("save two", 2, () -> x.saveProcedures());
        x.undefine('A');
        Check.same("save one", 1, () -> x.saveProcedures());
        Check.define(x, 'A', "u");
        Check.same("in place of the earlier", 1, () -> x.restoreProcedures());
        Check.same("A is not there", false, () -> x.undefine('A'));
        Check.same("H is there", true, () -> x.undefine('H'));
    }

    private static void restoreProcedures() {
        ExactTurtle x = new ExactTurtle();
        Check.raises("nothing saved", STATE, () -> x.restoreProcedures());
        Check.define(x, 'A', "u");
        Check.raises("still nothing saved", STATE, () -> x.restoreProcedures());
        Check.same("still defined", 1, () -> Check.run(x, "A"));
        x.saveProcedures();
        Check.define(x, 'A', "uuu");
        Check.define(x, 'B', "A");
        Check.same("restore", 1, () -> x.restoreProcedures());
        Check.same("the saved one", 1, () -> Check.run(x, "A"));
        Check.raises("undefined in what was saved", NONE, () -> Check.run(x, "B"));
        x.undefine('A');
        Check.same("stay saved", 1, () -> x.restoreProcedures());
        Check.same("the saved one again", 1, () -> Check.run(x, "A"));
        ExactTurtle y = new ExactTurtle();
        y.saveProcedures();
        Check.define(y, 'A', "u");
        Check.same("restore none", 0, () -> y.restoreProcedures());
        Check.same("none is defined", false, () -> y.undefine('A'));
    }
}

/** The sentences of the document's description on directions, coordinates, programs and syntax errors. */
final class LanguageBoundaries extends Boundary {
    private static final String PROSE = "Description";

    private LanguageBoundaries() {
    }

    static void all() {
        objectsOf512Calls();
        turnsOfDirections();
        refusedCallsChangeNothing();
        theFirstNamedException();
        numberOfDirections();
        directionsFrom0();
        theRoot();
        namesOfParts();
        partsFromMinus5000To5000();
        factorsOf4Directions();
        movesOfLength1();
        noSpaces();
        zeroOrMoreCommands();
        theGrammar();
        numbersOf4Digits();
        namesAToH();
        whatCommandsDo();
        repetitionsThatNeverHappen();
        sixOpenParentheses();
        errorPositions();
        constants();
    }

    private static void objectsOf512Calls() {
        about("What it is", "An object is used for at most 512 calls after it has been made");
        ExactTurtle x = new ExactTurtle();
        for (int i = 0; i < 127; i++) {
            Check.same("a run", 1, () -> Check.run(x, "u"));
            Check.same("its points", 1, () -> x.points());
            Check.same("its turns", 0, () -> x.turning());
        }
        Check.same("the 511th call", 1, () -> Check.run(x, "f3"));
        Check.same("the 512th call", 6, () -> x.point(1, 0));
    }

    private static void turnsOfDirections() {
        about(PROSE, "turns by multiples of 360 degrees divided by 4, 6, 8 or 12");
        for (int d : DIRECTIONS) {
            for (int times = 1; times < d; times++) {
                int n = times;
                Check.same(n + " turns of " + d, false, () -> Check.after(d, n + "(l1)f1").point(1, 0) == 2);
            }
            Check.same("all turns of " + d, 2, () -> Check.after(d, d + "(l1)f1").point(1, 0));
        }
    }

    private static void refusedCallsChangeNothing() {
        about(PROSE, "A method that throws an exception or returns an error code leaves the state unchanged");
        refuses(ARGUMENT, "setDirections", x -> x.setDirections(5));
        refuses(() -> Check.feed(filled(), "u".repeat(100)), STATE, "feed", x -> x.feed('l'));
        refuses(ARGUMENT, "define", x -> x.define('I'));
        refuses(ARGUMENT, "undefine", x -> x.undefine('I'));
        runFails(NONE, "l1f1D");
        runFails(STATE, "l1f1u301(u)");
        runFails(RANGE, "l1f1f9999");
        refuses(INDEX, "point", x -> x.point(9, 0));
        refuses(INDEX, "isDrawn", x -> x.isDrawn(9));
        refuses(() -> filled(4, "f1"), NONE, "closingRepeats", x -> x.closingRepeats());
        refuses(ARGUMENT, "area", x -> x.area(2));
        refuses(STATE, "area", x -> x.area(0));
        refuses(() -> filled(4, "f1"), NONE, "firstMeeting", x -> x.firstMeeting());
        refuses(ARGUMENT, "extreme", x -> x.extreme(4, 0));
        refuses(STATE, "corners", x -> x.corners());
        refuses(STATE, "symmetry", x -> x.symmetry());
        refuses(STATE, "isMirrored", x -> x.isMirrored());
        refuses(ARGUMENT, "shortestWalk", x -> x.shortestWalk(9));
        refuses(NONE, "shortestWalk", x -> x.shortestWalk(8));
        refuses(INDEX, "outputAt", x -> x.outputAt(8));
        refuses(() -> filled(4, "41(u)"), STATE, "shortestText", x -> x.shortestText());
        refuses(INDEX, "called", x -> x.called(3));
        refuses(ARGUMENT, "createTrace", x -> x.createTrace(301));
        refuses(ExactTurtle::new, STATE, "restoreProcedures", x -> x.restoreProcedures());
        answersOnly(Boundary::filledAndFed, -14, "createTrace", x -> x.createTrace(-1));
        answersOnly(Boundary::filledAndFed, -13, "traceAt", x -> x.traceAt(5));
        answersOnly(ExactTurtle::new, -11, "traceAt", x -> x.traceAt(0));
        isWrong("l1f1)", 4);
    }

    private static void theFirstNamedException() {
        about(PROSE, "If several exceptions apply, the one named first is thrown.");
        for (int wrong : outside(0, 1)) {
            refuses(() -> filled(12, "f1"), ARGUMENT, "area of an open track", x -> x.area(wrong));
        }
        for (int wrong : outside(0, 8)) {
            refuses(() -> filled(12, "f9"), ARGUMENT, "shortestWalk too far", x -> x.shortestWalk(wrong));
        }
        // The 301st command, which is one too many, would also leave the range.
        runFails(STATE, "300(u)f2501");
        runFails(STATE, "298(u)f2500uf1");
        runFails(RANGE, "297(u)f2500uf1");
        // The first command too many, and a call of what is undefined: the run comes to one of them alone.
        runFails(NONE, "300(u)D");
        runFails(STATE, "301(u)D");
        runFails(NONE, "2000()D");
        runFails(STATE, "2001()D");
        runFails(NONE, "f2500D");
        runFails(RANGE, "f2501D");
    }

    private static void numberOfDirections() {
        about(PROSE, "The number of directions d is 4, 6, 8 or 12; it is 4 at first.");
        for (int d = -13; d <= 25; d++) {
            int n = d;
            if (d == 4 || d == 6 || d == 8 || d == 12) {
                Check.same("to " + n + " from 4", 4, () -> new ExactTurtle().setDirections(n));
            } else {
                refuses(ExactTurtle::new, ARGUMENT, "to " + n, x -> x.setDirections(n));
            }
        }
        Check.same("4 at first", 3, () -> {
            ExactTurtle x = new ExactTurtle();
            Check.run(x, "l7");
            return x.direction();
        });
    }

    private static void directionsFrom0() {
        about(PROSE, "Direction h, from 0 to d - 1, points 360 * h / d degrees to the left of the positive x axis.");
        for (int d : DIRECTIONS) {
            for (int h = -d; h <= 2 * d; h++) {
                int turn = Math.abs(h);
                String text = (h < 0 ? "r" : "l") + turn + "f1000";
                int due = (h + d) % d;
                ExactTurtle x = Check.after(d, text);
                Check.same("direction after " + text, due, () -> x.direction());
                double root = Math.sqrt(d == 8 ? 2 : 3);
                double angle = 2 * Math.PI * h / d;
                Check.same("x after " + text, true,
                        () -> near(2000 * Math.cos(angle), x.point(1, 0) + root * x.point(1, 1)));
                Check.same("y after " + text, true,
                        () -> near(2000 * Math.sin(angle), x.point(1, 2) + root * x.point(1, 3)));
            }
        }
    }

    private static boolean near(double a, double b) {
        return Math.abs(a - b) < 1e-6;
    }

    private static void theRoot() {
        about(PROSE, "The number r is 2 if d is 8, and 3 otherwise.");
        // 41 times the root of 2 is a little less than 58, and 42 times it is more.
        sameGreatestX(8, "f29l4f29l5f41", 58, 0);
        sameGreatestX(8, "f29l4f29l5f42", 0, 42);
        // 15 times the root of 3 is a little less than 26, and 16 times it is more.
        sameGreatestX(12, "f13l6f13l7f15", 26, 0);
        sameGreatestX(12, "f13l6f13l7f16", 0, 16);
        for (int d : new int[] {8, 12}) {
            Check.same("area of a square aslant, " + d, 8L, () -> Check.after(d, "l00014(f1l" + d / 4 + ")").area(0));
            Check.same("and its factor, " + d, 0L, () -> Check.after(d, "l00014(f1l" + d / 4 + ")").area(1));
        }
    }

    private static void sameGreatestX(int d, String text, int integer, int factor) {
        ExactTurtle x = Check.after(d, text);
        Check.same("integer of " + text, integer, () -> x.extreme(1, 0));
        Check.same("factor of " + text, factor, () -> x.extreme(1, 1));
    }

    private static void namesOfParts() {
        about(PROSE, "with the integers a, b, s and t, which are called its parts 0, 1, 2 and 3.");
        sameParts(8, "f3l1f5l1f7", 3, 6, 5, 14, 5);
        sameParts(12, "f3l1f5l1f7", 3, 6 + 7, 5, 5, 7);
        sameParts(6, "f3l1f5", 2, 6 + 5, 0, 0, 5);
        sameParts(4, "f3l1f5", 2, 6, 0, 10, 0);
    }

    private static void sameParts(int d, String text, int point, int... due) {
        ExactTurtle x = Check.after(d, text);
        for (int part = 0; part < 4; part++) {
            int p = part;
            Check.same("part " + p + " of " + text, due[p], () -> x.point(point, p));
        }
    }

    private static void partsFromMinus5000To5000() {
        about(PROSE, "Each part must be from -5000 to 5000.");
        for (int d : DIRECTIONS) {
            for (int h = 0; h < d; h++) {
                // Along an axis a move of 1 adds 2 to a part, aslant 1 at most.
                int farthest = 4 * h % d == 0 ? 2500 : 5000;
                String turn = "l" + h;
                Check.same(d + ": " + turn, 2, () -> Check.run(turtle(d), turn + "f" + farthest));
                Check.same(d + ": the farthest part", true, () -> hasFarthestPart(Check.after(d, turn + "f" + farthest)));
                runFails(() -> filled(d, "f1"), RANGE, turn + "f" + (farthest + 1));
                runFails(() -> filled(d, "f1"), RANGE, turn + "f" + farthest + "f1");
                runFails(() -> filled(d, "f1"), RANGE, turn + "f9999");
            }
        }
        onePartAlone(6, 1, "r2", "l1");
        onePartAlone(8, 1, "r2", "l2");
        onePartAlone(12, 1, "r2", "l4");
        onePartAlone(12, 2, "r4", "l2");
    }

    private static boolean hasFarthestPart(ExactTurtle x) {
        boolean found = false;
        for (int part = 0; part < 4; part++) {
            found |= Math.abs(x.point(1, part)) == 5000;
        }
        return found;
    }

    /** From a place where two parts are 5000, turns after which one of them grows and the other one shrinks. */
    private static void onePartAlone(int d, int direction, String... turns) {
        for (int half = 0; half <= 1; half++) {
            String start = "l" + (direction + half * d / 2);
            for (String turn : turns) {
                Check.same(d + ": " + start + " " + turn, 4, () -> Check.run(turtle(d), start + "f4999" + turn + "f1"));
                runFails(() -> filled(d, "f1"), RANGE, start + "f4999" + turn + "f2");
                runFails(() -> filled(d, "f1"), RANGE, start + "f5000" + turn + "f1");
            }
        }
    }

    private static void factorsOf4Directions() {
        about(PROSE, "The parts are unique except for d = 4, where b and t are always 0.");
        ExactTurtle x = Check.after(4, "f1l1f2490l1f7l1f3r1l7f9l1");
        for (int i = 0; i < 6; i++) {
            int n = i;
            Check.same("b of " + n, 0, () -> x.point(n, 1));
            Check.same("t of " + n, 0, () -> x.point(n, 3));
        }
        for (int side = 0; side < 4; side++) {
            int s = side;
            Check.same("factor of the extreme " + s, 0, () -> x.extreme(s, 1));
        }
    }

    private static void movesOfLength1() {
        about(PROSE, "A move of length 1 in direction h adds twice the cosine and twice the sine of the angle of h");
        int[][] of4 = {{2, 0, 0, 0}, {0, 0, 2, 0}, {-2, 0, 0, 0}, {0, 0, -2, 0}};
        int[][] of6 = {{2, 0, 0, 0}, {1, 0, 0, 1}, {-1, 0, 0, 1}, {-2, 0, 0, 0}, {-1, 0, 0, -1}, {1, 0, 0, -1}};
        int[][] of8 = {{2, 0, 0, 0}, {0, 1, 0, 1}, {0, 0, 2, 0}, {0, -1, 0, 1}, {-2, 0, 0, 0}, {0, -1, 0, -1},
            {0, 0, -2, 0}, {0, 1, 0, -1}};
        int[][] of12 = {{2, 0, 0, 0}, {0, 1, 1, 0}, {1, 0, 0, 1}, {0, 0, 2, 0}, {-1, 0, 0, 1}, {0, -1, 1, 0},
            {-2, 0, 0, 0}, {0, -1, -1, 0}, {-1, 0, 0, -1}, {0, 0, -2, 0}, {1, 0, 0, -1}, {0, 1, -1, 0}};
        for (int[][] moves : new int[][][] {of4, of6, of8, of12}) {
            for (int h = 0; h < moves.length; h++) {
                sameParts(moves.length, "l" + h + "f1", 1, moves[h]);
                sameParts(moves.length, "r" + (moves.length - h) + "f1", 1, moves[h]);
            }
        }
    }

    private static void noSpaces() {
        about(PROSE, "A program is a text without spaces.");
        isWrong(" ", 0);
        isWrong("f1 u", 2);
        isWrong("f 1", 1);
        isWrong("1( )", 2);
        isWrong("u ", 1);
        isRight("f1u", 2, 2);
    }

    private static void zeroOrMoreCommands() {
        about(PROSE, "In the grammar, braces mean zero or more repetitions:");
        about(PROSE, "program = { command");
        isRight("", 0, 0);
        isRight("u", 1, 1);
        isRight("u".repeat(100), 100, 100);
        isRight("0()", 1, 0);
        isRight("3()", 1, 0);
        isRight("1(u)", 2, 1);
        isRight("1(" + "u".repeat(97) + ")", 98, 97);
    }

    private static void theGrammar() {
        about(PROSE, "command = \"f\" number | \"l\" number | \"r\" number | \"u\" | \"d\" | number \"(\" program "
                + "\")\" | name");
        isRight("f1l1r1ud1(u)", 7, 6);
        for (String letter : new String[] {"f", "l", "r"}) {
            isWrong(letter, 1);
            isWrong(letter + "u", 1);
            isWrong(letter + "(", 1);
            isWrong(letter + "-1", 1);
            isWrong(letter + "A", 1);
        }
        isWrong("u1", 2);
        isWrong("d1u", 2);
        isWrong("(u)", 0);
        isWrong("()", 0);
        isWrong(")", 0);
        isWrong("1)", 1);
        isWrong("1u", 1);
        isWrong("1(", 2);
        isWrong("1(u", 3);
        isWrong("1(u))", 4);
        isWrong("1(1(u)", 6);
        isWrong("F1", 2);
        for (char letter : new char[] {'e', 'g', 'k', 'm', 'q', 's', 't', 'v', 'c', '/', ':', '*', (char) 0, (char) 256,
            (char) ('f' + 256), (char) ('u' + 256), (char) 65535}) {
            isWrong("" + letter + "1", 0);
        }
        isWrong("f" + (char) ('1' + 256), 1);
        isWrong("f" + (char) 1633, 1);
    }

    private static void numbersOf4Digits() {
        about(PROSE, "A number consists of as many digits as follow one another, but of 4 at most; a fifth digit "
                + "begins a new command, so that f12345(u) is f1234 followed by 5(u), and f12345 ends too early.");
        for (String letter : new String[] {"f", "l", "r"}) {
            isWrong(letter, 1);
            isRight(letter + "1", 1, 1);
            isRight(letter + "12", 1, 1);
            isRight(letter + "123", 1, 1);
            isRight(letter + "1234", 1, 1);
            isRight(letter + "0000", 1, 1);
            isWrong(letter + "12345", 6);
            isWrong(letter + "00001", 6);
            isWrong(letter + "12345u", 6);
            isRight(letter + "12345(u)", 3, 6);
            isRight(letter + "12340005(u)", 3, 6);
            isWrong(letter + "123400051(u)", 9);
            isWrong(letter + "1234" + letter, 6);
        }
        Check.same("f1234", 2468, () -> Check.after(4, "f12345(u)").point(1, 0));
        Check.same("l1234", 1234, () -> Check.after(4, "l12345(u)").turning());
        Check.same("r9999", -9999, () -> Check.after(4, "r99991(u)").turning());
        Check.same("f0012", 24, () -> Check.after(4, "f0012").point(1, 0));
        isRight("9()", 1, 0);
        isRight("2000()", 1, 0);
        isRight("0003(u)", 2, 3);
        isWrong("00003(u)", 4);
        isWrong("1234", 4);
        isWrong("12345", 4);
        isWrong("12345(u)", 4);
    }

    private static void namesAToH() {
        about(PROSE, "A name is a capital letter A to H.");
        for (char name = 'A'; name <= 'H'; name++) {
            String text = "" + name;
            char n = name;
            Check.same("define " + text, 1, () -> Check.define(new ExactTurtle(), n, text));
            Check.same("run " + text, 2, () -> {
                ExactTurtle x = new ExactTurtle();
                Check.define(x, n, "ud");
                return Check.run(x, text);
            });
        }
        for (char wrong : new char[] {'@', 'I', 'Z', 'a', 'h', 'b', (char) ('A' + 256), (char) ('H' + 256)}) {
            isWrong("" + wrong, 0);
            isWrong("u" + wrong, 1);
            isWrong("2(" + wrong + ")", 2);
        }
    }

    private static void whatCommandsDo() {
        about(PROSE, "The command f moves the turtle forward by the number; l and r turn it left and right by the "
                + "number of directions; u lifts the pen, and d lowers it.");
        Check.same("f0 moves nothing", 1, () -> Check.after(4, "f0").points());
        Check.same("f1", 2, () -> Check.after(4, "f1").point(1, 0));
        Check.same("l0 turns nothing", 0, () -> Check.after(4, "l0").direction());
        Check.same("r0 turns nothing", 0, () -> Check.after(4, "r0").direction());
        Check.same("l1", 1, () -> Check.after(4, "l1").direction());
        Check.same("r1", 3, () -> Check.after(4, "r1").direction());
        Check.same("u twice", false, () -> Check.after(4, "uuf1").isDrawn(0));
        Check.same("u twice and d once", true, () -> Check.after(4, "uudf1").isDrawn(0));
        Check.same("d when it is down", true, () -> Check.after(4, "df1").isDrawn(0));
        Check.same("d and u", false, () -> Check.after(4, "duf1").isDrawn(0));
    }

    private static void repetitionsThatNeverHappen() {
        about(PROSE, "A number with a program in parentheses executes this program as often as the number says, "
                + "possibly never.");
        isRight("0(u)", 2, 0);
        isRight("0000(u)", 2, 0);
        isRight("1(u)", 2, 1);
        isRight("2(u)", 2, 2);
        isRight("0(301(u))", 3, 0);
        isRight("0(f9999)", 2, 0);
        isRight("0(9999())", 2, 0);
        isRight("0(D)", 2, 0);
        isRight("0(3(u)u)d", 5, 1);
        isRight("3(0(u)d)", 4, 3);
        runFails(NONE, "1(D)");
        runFails(RANGE, "1(f9999)");
        ExactTurtle x = filled();
        Check.same("calls that never happen", 1, () -> Check.run(x, "0(AB)u"));
        Check.raises("are not called", INDEX, () -> x.called(0));
        Check.same("and not counted", 0, () -> x.calls('A'));
    }

    private static void sixOpenParentheses() {
        about(PROSE, "At most 6 parentheses may be open at the same time; the number before the seventh one is "
                + "accepted, but not the \"(\".");
        String six = "1(".repeat(6);
        String end = ")".repeat(6);
        isRight(six + end, 6, 0);
        isRight(six + "u" + end, 7, 1);
        isRight(six + end + six + end, 12, 0);
        isRight("1(".repeat(5) + "1(u)1(u)" + ")".repeat(5), 9, 2);
        isWrong(six + "1(u)" + end, 13);
        isWrong(six + "1(", 13);
        isWrong(six + "1", 13);
        isWrong(six + "1u", 13);
        isWrong(six + "1)", 13);
        isWrong(six + "1234(", 16);
        isWrong(six + "1234", 16);
        isWrong(six + "12345(", 16);
        isWrong(six + "0()", 13);
        isWrong(six + "(", 12);
        isWrong(six + ")1(1(", 16);
        isWrong(six + end + ")", 18);
        isWrong(six + ")".repeat(5), 17);
        Check.same("six in a procedure within six", 1, () -> {
            ExactTurtle x = new ExactTurtle();
            Check.define(x, 'A', six + "u" + end);
            return Check.run(x, six + "A" + end);
        });
    }

    private static void errorPositions() {
        about(PROSE, "The error position is the offset, from 0, of the first character that cannot continue a "
                + "program, or the length of the text if it ends too early.");
        String many = "u".repeat(98);
        isWrong("x", 0);
        isWrong("xx)", 0);
        isWrong("ux", 1);
        isWrong("f", 1);
        isWrong(many + "ux", 99);
        isWrong(many + "u)", 99);
        isWrong(many + "xu", 98);
        isWrong(many + "uf", 100);
        isWrong(many + "u1", 100);
        isWrong("1(" + many, 100);
        isWrong("1(" + many.substring(1) + "l", 100);
        isRight(many + "f1", 99, 99);
        isRight("", 0, 0);
    }

    private static void constants() {
        about(PROSE, "`NO_TRACE = -11`: There is no trace.");
        answersOnly(ExactTurtle::new, ExactTurtle.NO_TRACE, "traceAt", x -> x.traceAt(0));
        Check.same("NO_TRACE", -11, () -> ExactTurtle.NO_TRACE);
        about(PROSE, "`NO_INDEX = -13`: There is no such index.");
        answersOnly(Boundary::filledAndFed, ExactTurtle.NO_INDEX, "traceAt", x -> x.traceAt(-1));
        Check.same("NO_INDEX", -13, () -> ExactTurtle.NO_INDEX);
        about(PROSE, "`NEGATIVE_SIZE = -14`: A size is negative.");
        answersOnly(Boundary::filledAndFed, ExactTurtle.NEGATIVE_SIZE, "createTrace", x -> x.createTrace(-1));
        Check.same("NEGATIVE_SIZE", -14, () -> ExactTurtle.NEGATIVE_SIZE);
    }
}

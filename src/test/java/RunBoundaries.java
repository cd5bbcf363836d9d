/** The sentences of the description on procedures and running, and those of the promises 1 to 6. */
final class RunBoundaries extends Boundary {
    private static final String PROSE = "Description";

    private RunBoundaries() {
    }

    static void all() {
        eightProcedures();
        proceduresThatCallThemselves();
        aNameExecutes();
        startOfARun();
        basicCommands();
        atMost300BasicCommands();
        atMost8ActiveCalls();
        atMost2000Rounds();
        callsOfUndefinedProcedures();
        partsThatLeaveTheirRange();
        promise1();
        promise2AsIfAnEmptyProgramHadBeenRun();
        promise2ProceduresAndBuffersStay();
        promise2PreviousNumber();
        promise2Throws();
        promise3AnyCharacter();
        promise3NumberOfCharacters();
        promise3Throws();
        promise4InPlaceOfAnEarlierOne();
        promise4TheBufferIsEmptyAfterwards();
        promise4Names();
        promise4NumberOfCommands();
        promise4Throws();
        promise5MakesUndefined();
        promise5Names();
        promise5Throws();
        promise6TheBufferIsEmptyAfterwards();
        promise6ThePreviousRunStays();
        promise6NumberOfBasicCommands();
        promise6ThrowsForUndefinedProcedures();
        promise6ThrowsForTooMany();
        promise6ThrowsForTheRange();
    }

    private static void eightProcedures() {
        about(PROSE, "There are eight procedures, A to H, which are undefined at first.");
        ExactTurtle all = new ExactTurtle();
        for (char name = 'A'; name <= 'H'; name++) {
            char n = name;
            Check.same(n + " at first", false, () -> new ExactTurtle().undefine(n));
            runFails(ExactTurtle::new, NONE, "" + n);
            Check.same("define " + n, 1, () -> Check.define(all, n, "l" + (n - 'A' + 1)));
        }
        Check.same("all of them", 8, () -> Check.run(all, "ABCDEFGH"));
        Check.same("each one is its own", 36, () -> all.turning());
        Check.same("eight", 8, () -> all.saveProcedures());
        refuses(ARGUMENT, "a ninth", x -> x.define('I'));
        refuses(ARGUMENT, "one before the first", x -> x.define('@'));
    }

    private static void proceduresThatCallThemselves() {
        about(PROSE, "A procedure may call itself or others.");
        ExactTurtle x = new ExactTurtle();
        Check.same("a call of itself", 1, () -> Check.define(x, 'A', "A"));
        Check.raises("never ends", STATE, () -> Check.run(x, "A"));
        Check.same("a call of itself that never happens", 3, () -> Check.define(x, 'A', "u0(A)"));
        Check.same("is no call", 1, () -> Check.run(x, "A"));
        Check.same("a call of a later one", 1, () -> Check.define(x, 'B', "H"));
        Check.raises("which is not yet defined", NONE, () -> Check.run(x, "B"));
        Check.define(x, 'H', "A");
        Check.same("defined afterwards", 1, () -> Check.run(x, "B"));
        Check.define(x, 'H', "B");
        Check.raises("a circle of two", STATE, () -> Check.run(x, "B"));
    }

    private static void aNameExecutes() {
        about(PROSE, "A name executes the procedure of this name.");
        ExactTurtle x = new ExactTurtle();
        Check.define(x, 'A', "");
        Check.same("an empty one", 0, () -> Check.run(x, "AA"));
        Check.same("is called", 2, () -> x.calls('A'));
        Check.define(x, 'A', "f1l1");
        Check.same("as it is at the time of the run", 2, () -> Check.run(x, "A"));
        Check.define(x, 'B', "A");
        Check.define(x, 'A', "f1");
        Check.same("also within another one", 1, () -> Check.run(x, "B"));
        Check.define(x, 'A', "1(u)");
        Check.same("each time that it is called", 3, () -> Check.run(x, "AAA"));
        Check.define(x, 'A', "1()");
        Check.raises("each time, with its rounds", STATE, () -> Check.run(x, "1000(A)1()"));
    }

    private static void startOfARun() {
        about(PROSE, "A run starts at the point 0, 0 in direction 0 with the pen down.");
        String[] before = {"", "l1f5u", "r3uf2500", "l1f1uD", "uf1u301(u)", "ul1f9999", "ul1f1)"};
        for (String text : before) {
            ExactTurtle x = new ExactTurtle();
            runAnyhow(x, text);
            Check.same("run after " + text, 1, () -> Check.run(x, "f2500"));
            for (int part = 0; part < 4; part++) {
                int p = part;
                Check.same("its start after " + text, 0, () -> x.point(0, p));
                Check.same("its end after " + text, p == 0 ? 5000 : 0, () -> x.point(1, p));
            }
            Check.same("drawn after " + text, true, () -> x.isDrawn(0));
            Check.same("turned after " + text, 0, () -> x.turning());
        }
    }

    private static void basicCommands() {
        about(PROSE, "Each execution of f, l, r, u or d is a basic command.");
        for (String command : new String[] {"f0", "f1", "l0", "l4", "r0", "r4", "u", "d"}) {
            Check.same(command, 1, () -> Check.run(new ExactTurtle(), command));
            Check.same(command + " again", 3, () -> Check.run(new ExactTurtle(), command + command + command));
            Check.same(command + " repeated", 7, () -> Check.run(new ExactTurtle(), "7(" + command + ")"));
        }
        Check.same("repetitions are none", 0, () -> Check.run(new ExactTurtle(), "5(2())"));
        Check.same("names are none", 1, () -> Check.run(filled(), "HHHH3(H)u"));
        Check.same("what never happens is none", 1, () -> Check.run(new ExactTurtle(), "0(f1l1r1ud)u"));
    }

    private static void atMost300BasicCommands() {
        about(PROSE, "A run fails if it would need more than 300 basic commands");
        for (String command : new String[] {"f0", "f1", "l0", "l1", "r0", "r1", "u", "d"}) {
            Check.same("300 of " + command, 300, () -> Check.run(filled(), "300(" + command + ")"));
            runFails(STATE, "301(" + command + ")");
            runFails(STATE, "300(u)" + command);
            runFails(STATE, "300(" + command + ")u");
        }
        Check.same("299 and one", 300, () -> Check.run(new ExactTurtle(), "299(u)d"));
        Check.same("in repetitions", 300, () -> Check.run(new ExactTurtle(), "15(4(ud3(d)))"));
        runFails(STATE, "15(4(ud3(d)))u");
        Check.same("in procedures", 300, () -> Check.run(filled(), "75(AA)"));
        runFails(STATE, "75(AA)d");
        runFails(STATE, "d75(AA)");
        Check.same("nothing more after them", 300, () -> Check.run(filled(), "300(u)0(u)HHH9()"));
        Check.same("300 again in the next run", 300, () -> {
            ExactTurtle x = filled(4, "300(u)");
            return Check.run(x, "300(d)");
        });
    }

    /** A is the first of so many procedures that call one another in a row; the last one has a text. */
    private static ExactTurtle chain(int length, String last) {
        ExactTurtle x = filled();
        for (int i = 0; i < length; i++) {
            Check.define(x, (char) ('A' + i), i + 1 < length ? "" + (char) ('B' + i) : last);
        }
        return x;
    }

    private static void atMost8ActiveCalls() {
        about(PROSE, "if more than 8 calls of procedures would be active at the same time");
        for (int length = 1; length <= 8; length++) {
            int n = length;
            Check.same(n + " active calls", 1, () -> Check.run(chain(n, "u"), "A"));
            Check.same(n + " active calls that do nothing", 0, () -> Check.run(chain(n, ""), "A"));
            Check.same(n + " active calls, thrice", 3, () -> Check.run(chain(n, "u"), "A2(A)"));
            runFails(() -> chain(n, "uA"), STATE, "A");
            runFails(() -> chain(n, "A"), STATE, "A");
        }
        runFails(() -> chain(8, "0()H"), STATE, "A");
        // Eight calls of A come to their f, the ninth fails before its own: 8 times 312 is within 2500, 9 times is not.
        runFails(() -> chain(1, "f312A"), STATE, "A");
        runFails(() -> chain(1, "f313A"), RANGE, "A");
        runFails(() -> chain(2, "f625A"), STATE, "A");
        runFails(() -> chain(2, "f626A"), RANGE, "A");
        runFails(() -> chain(4, "f1250A"), STATE, "A");
        runFails(() -> chain(4, "f1251A"), RANGE, "A");
        runFails(() -> chain(8, "f2500A"), STATE, "A");
        runFails(() -> chain(8, "f2501A"), RANGE, "A");
        Check.same("one after the other", 0, () -> Check.run(filled(), "H".repeat(100)));
        Check.same("are not active at the same time", 100, () -> {
            ExactTurtle x = filled();
            Check.run(x, "H".repeat(100));
            return x.calls('H');
        });
        Check.same("a ninth call that never happens", 0, () -> Check.run(chain(8, "0(A)"), "A"));
        Check.same("parentheses are no calls", 1, () -> Check.run(chain(8, "1(1(1(1(1(1(u))))))"), "1(1(1(1(1(1(A))))))"));
        Check.same("nor are rounds", 128, () -> Check.run(chain(8, "2(2(2(2(2(2(u))))))"), "1(1(1(1(1(2(A))))))"));
    }

    private static void atMost2000Rounds() {
        about(PROSE, "if more than 2000 rounds of repetitions would be executed in the whole run");
        Check.same("2000", 0, () -> Check.run(filled(), "2000()"));
        runFails(STATE, "2001()");
        runFails(STATE, "9999()");
        Check.same("1999 and one", 0, () -> Check.run(filled(), "1999()1()"));
        runFails(STATE, "2000()1()");
        Check.same("rounds of rounds", 0, () -> Check.run(filled(), "1000(1())"));
        Check.same("rounds of two rounds", 0, () -> Check.run(filled(), "2()666(2())"));
        runFails(STATE, "3()666(2())");
        Check.same("rounds in six parentheses", 0, () -> Check.run(filled(), "1(1(1(1(1(1995())))))"));
        runFails(STATE, "1(1(1(1(1(1996())))))");
        Check.same("rounds of none", 0, () -> Check.run(filled(), "2000(0(9999()))0()"));
        ExactTurtle x = filled();
        Check.define(x, 'C', "500()");
        Check.same("in procedures", 0, () -> Check.run(x, "CCCC"));
        Check.raises("in procedures, one too many", STATE, () -> Check.run(x, "CCCC1()"));
        Check.raises("in procedures, five times", STATE, () -> Check.run(x, "CCCCC"));
        Check.same("each run counts anew", 0, () -> Check.run(x, "C1500()"));
        Check.same("with 300 basic commands in the last rounds", 300, () -> Check.run(x, "1700()300(u)"));
    }

    private static void callsOfUndefinedProcedures() {
        about(PROSE, "if a procedure that is called is undefined");
        for (char name = 'C'; name <= 'G'; name++) {
            runFails(NONE, "" + name);
            runFails(NONE, "f1l1u" + name);
            runFails(NONE, "A2(BH)3(" + name + ")");
        }
        Check.same("not called", 1, () -> Check.run(filled(), "0(CDEFG)u"));
        Check.same("defined", 2, () -> Check.run(filled(), "A"));
        Check.same("a procedure that calls it is right", 1, () -> Check.define(filled(), 'A', "C"));
        runFails(() -> {
            ExactTurtle x = filled();
            Check.define(x, 'A', "f1C");
            return x;
        }, NONE, "uA");
    }

    private static void partsThatLeaveTheirRange() {
        about(PROSE, "or if a part of a point would leave its range.");
        Check.same("the greatest", 1, () -> Check.run(filled(4, ""), "f2500"));
        runFails(() -> filled(4, "f1"), RANGE, "f2501");
        Check.same("in two steps", 2, () -> Check.run(filled(4, ""), "f2499f1"));
        runFails(() -> filled(4, "f1"), RANGE, "f2499f2");
        runFails(() -> filled(4, "f1"), RANGE, "f2500f1");
        runFails(() -> filled(4, "f1"), RANGE, "f2501l2f2501");
        Check.same("with the pen up", 2, () -> Check.run(filled(4, ""), "uf2500"));
        runFails(() -> filled(4, "f1"), RANGE, "uf2501");
        Check.same("f0 at the end of the range", 2, () -> Check.run(filled(4, ""), "f2500f0"));
        Check.same("turning has no range", 300, () -> Check.run(filled(4, ""), "300(l9999)"));
        Check.same("from one end to the other", 3, () -> Check.run(filled(4, ""), "f2500l2f5000"));
        runFails(() -> filled(4, "f1"), RANGE, "f2500l2f5001");
    }

    private static void promise1() {
        about(1, "Creates a turtle with 4 directions, undefined procedures and a track that has only its start "
                + "point.");
        ExactTurtle x = new ExactTurtle();
        Check.same("4 directions", 4, () -> new ExactTurtle().setDirections(4));
        Check.same("no procedures", 0, () -> new ExactTurtle().saveProcedures());
        Check.same("one point", 1, () -> x.points());
        for (int part = 0; part < 4; part++) {
            int p = part;
            Check.same("part " + p, 0, () -> x.point(0, p));
        }
        refuses(ExactTurtle::new, INDEX, "a second point", y -> y.point(1, 0));
        refuses(ExactTurtle::new, INDEX, "a segment", y -> y.isDrawn(0));
        Check.same("like one after an empty run", "", () -> {
            ExactTurtle y = new ExactTurtle();
            y.run();
            return firstDifference(everything(new ExactTurtle()), everything(y));
        });
    }

    private static void promise2AsIfAnEmptyProgramHadBeenRun() {
        about(2, "The track is replaced by one that has only its start point, as if an empty program had been run.");
        for (int from : DIRECTIONS) {
            for (int to : DIRECTIONS) {
                ExactTurtle set = filled(from, "BHul1f2df3HA");
                set.setDirections(to);
                Check.same("one point, " + from + " to " + to, 1, () -> set.points());
                Check.raises("no call, " + from + " to " + to, INDEX, () -> set.called(0));
                ExactTurtle emptied = filled(from, "BHul1f2df3HA");
                emptied.run();
                emptied.setDirections(to);
                Check.same("as after an empty run, " + from + " to " + to, "",
                        () -> firstDifference(everything(emptied), everything(set)));
            }
        }
    }

    private static void promise2ProceduresAndBuffersStay() {
        about(2, "Procedures and buffers stay.");
        ExactTurtle x = Check.feed(filled(), "u".repeat(100));
        x.setDirections(6);
        Check.raises("the full buffer is full", STATE, () -> x.feed('u'));
        Check.same("with all it held", 100, () -> x.run());
        Check.same("the output", 'f', () -> x.outputAt(2));
        Check.raises("has its end", INDEX, () -> x.outputAt(3));
        Check.same("A", 2, () -> Check.run(x, "A"));
        Check.same("B", 5, () -> Check.run(x, "B"));
        Check.same("H", 0, () -> Check.run(x, "H"));
        Check.raises("C is undefined", NONE, () -> Check.run(x, "C"));
        Check.same("what was saved", 2, () -> x.restoreProcedures());
        Check.same("is C, too", 1, () -> Check.run(x, "C"));
    }

    private static void promise2PreviousNumber() {
        about(2, "Returns the previous number.");
        for (int from : DIRECTIONS) {
            for (int to : DIRECTIONS) {
                Check.same(from + " to " + to, from, () -> filled(from, "f1").setDirections(to));
                Check.same(from + " to " + to + " to 8", to, () -> {
                    ExactTurtle x = turtle(from);
                    x.setDirections(to);
                    return x.setDirections(8);
                });
            }
        }
        Check.same("not one that was refused", 6, () -> {
            ExactTurtle x = turtle(6);
            Check.raises("7", ARGUMENT, () -> x.setDirections(7));
            return x.setDirections(4);
        });
    }

    private static void promise2Throws() {
        about(2, "Throws `IllegalArgumentException` if d is not 4, 6, 8 or 12");
        about(2, "`d`: the number of directions");
        for (int wrong : new int[] {3, 5, 7, 9, 10, 11, 13, 2, 1, 0, -4, -6, -8, -12, 16, 24, 260, 65540, Integer.MIN_VALUE,
            Integer.MIN_VALUE + 4, Integer.MAX_VALUE}) {
            refuses(ARGUMENT, "to " + wrong, x -> x.setDirections(wrong));
        }
        for (int right : DIRECTIONS) {
            Check.same("to " + right, 12, () -> filled().setDirections(right));
        }
    }

    private static void promise3AnyCharacter() {
        about(3, "`letter`: any character");
        for (char letter : new char[] {(char) 0, ' ', '\n', ')', '~', (char) 127, (char) 255, (char) 256, (char) 65535}) {
            ExactTurtle x = new ExactTurtle();
            Check.same("feed " + (int) letter, 1, () -> x.feed(letter));
            Check.same("feed it again", 2, () -> x.feed(letter));
            Check.same("it is no program", -100, () -> x.run());
        }
    }

    private static void promise3NumberOfCharacters() {
        about(3, "Returns the number of characters in the buffer.");
        about(3, "Appends a character to the input buffer.");
        ExactTurtle x = new ExactTurtle();
        for (int round = 0; round < 3; round++) {
            for (int i = 1; i <= 100; i++) {
                int n = i;
                Check.same("the character " + n, n, () -> x.feed(n == 100 ? 'd' : 'u'));
            }
            Check.same("all of them", 100, () -> x.run());
        }
    }

    private static void promise3Throws() {
        about(3, "Throws `IllegalStateException` if the buffer already holds 100 characters");
        Make almostFull = () -> Check.feed(filled(), "l1".repeat(49) + "u");
        Make full = () -> Check.feed(filled(), "l1".repeat(50));
        Check.same("the hundredth", 100, () -> almostFull.make().feed('d'));
        for (char letter : new char[] {'u', ')', (char) 0, (char) 65535}) {
            refuses(full, STATE, "feed " + (int) letter, x -> x.feed(letter));
        }
        ExactTurtle x = full.make();
        for (int i = 0; i < 3; i++) {
            Check.raises("the hundred and first, again and again", STATE, () -> x.feed('u'));
        }
        Check.same("the hundred are what they were", 50, () -> x.run());
        Check.same("and their turns", 50, () -> x.turning());
        Check.same("after a run there is room", 1, () -> x.feed('u'));
        Check.feed(x, "u".repeat(98) + "f");
        Check.raises("full of a wrong text", STATE, () -> x.feed('1'));
        Check.same("which is wrong at its end", -200, () -> x.define('A'));
        Check.same("after a definition there is room", 1, () -> x.feed('u'));
    }

    private static void promise4InPlaceOfAnEarlierOne() {
        about(4, "Parses the input buffer as a program and makes it a procedure, in place of an earlier one.");
        ExactTurtle x = filled();
        Check.same("the first", 2, () -> Check.run(x, "A"));
        Check.same("another one", 1, () -> Check.define(x, 'A', "u"));
        Check.same("is there now", 1, () -> Check.run(x, "A"));
        Check.same("an empty one", 0, () -> x.define('A'));
        Check.same("is there, too", 0, () -> Check.run(x, "A"));
        Check.same("and is defined", true, () -> x.undefine('A'));
        Check.same("a long one", 100, () -> Check.define(x, 'A', "u".repeat(100)));
        Check.same("in place of nothing", 100, () -> Check.run(x, "A"));
        Check.same("then a short one", 1, () -> Check.define(x, 'A', "d"));
        Check.same("of which nothing else is left", 1, () -> Check.run(x, "A"));
        Check.same("others stay", 0, () -> Check.run(x, "H"));
    }

    private static void promise4TheBufferIsEmptyAfterwards() {
        about(4, "The buffer is empty afterwards, even after a syntax error; it is kept if an exception is thrown.");
        for (String text : new String[] {"", "u", "u".repeat(100), ")", "f", "1(", "u".repeat(99) + "f"}) {
            ExactTurtle x = filled();
            Check.define(x, 'A', text);
            Check.same("after " + text, 0, () -> x.run());
            Check.define(x, 'A', text);
            Check.same("one after " + text, 1, () -> x.feed('u'));
        }
        for (String text : new String[] {"", "u", "u".repeat(100), ")", "f", "u".repeat(99) + "f"}) {
            refuses(() -> Check.feed(filled(), text), ARGUMENT, "define I with " + text, x -> x.define('I'));
        }
    }

    private static void promise4Names() {
        about(4, "`name`: the name, A to H");
        for (char name = 'A'; name <= 'H'; name++) {
            char n = name;
            ExactTurtle x = new ExactTurtle();
            Check.same("define " + n, 1, () -> Check.define(x, n, "l7"));
            Check.same("run " + n, 1, () -> Check.run(x, "" + n));
            Check.same("it is " + n, 7, () -> x.turning());
            Check.same("it alone", 1, () -> x.saveProcedures());
        }
    }

    private static void promise4NumberOfCommands() {
        about(4, "Returns the number of commands of the program, those in parentheses included; -100 minus the error "
                + "position after a syntax error.");
        isRight("", 0, 0);
        isRight("0()", 1, 0);
        isRight("0(u)", 2, 0);
        isRight("9(u)", 2, 9);
        isRight("2(3(ud)l1)", 5, 14);
        isRight("f1l1r1ud", 5, 5);
        isRight("u".repeat(100), 100, 100);
        isRight("0()".repeat(33), 33, 0);
        Check.same("names", 8, () -> Check.define(new ExactTurtle(), 'A', "ABCDEFGH"));
        isWrong(")", 0);
        isWrong("u)", 1);
        isWrong("u".repeat(99) + ")", 99);
        isWrong("u".repeat(99) + "1", 100);
        Check.same("an earlier one stays after an error", 2, () -> {
            ExactTurtle x = filled();
            Check.define(x, 'A', "uuu)");
            return Check.run(x, "A");
        });
        Check.same("an undefined one stays undefined after an error", false, () -> {
            ExactTurtle x = filled();
            Check.define(x, 'C', "uuu)");
            return x.undefine('C');
        });
    }

    private static void promise4Throws() {
        about(4, "Throws `IllegalArgumentException` if the name is not A to H");
        for (char wrong : noNames()) {
            refuses(ARGUMENT, "define " + (int) wrong, x -> x.define(wrong));
            refuses(() -> Check.feed(filled(), "1("), ARGUMENT, "define " + (int) wrong + " wrongly", x -> x.define(wrong));
        }
    }

    private static void promise5MakesUndefined() {
        about(5, "Makes a procedure undefined.");
        about(5, "Returns true if it was defined.");
        for (char name = 'A'; name <= 'H'; name++) {
            char n = name;
            ExactTurtle x = new ExactTurtle();
            answersOnly(ExactTurtle::new, false, "undefine " + n, y -> y.undefine(n));
            Check.define(x, n, "");
            Check.same("undefine what is defined, " + n, true, () -> x.undefine(n));
            Check.same("undefine it again, " + n, false, () -> x.undefine(n));
            Check.raises("it is not called, " + n, NONE, () -> Check.run(x, "" + n));
            Check.same("none is defined", 0, () -> x.saveProcedures());
        }
        answersOnly(Boundary::filledAndFed, false, "undefine what is only saved", x -> x.undefine('C'));
        ExactTurtle x = filledAndFed();
        Check.same("undefine A", true, () -> x.undefine('A'));
        Check.same("the last run stays", 2, () -> x.calls('A'));
        Check.raises("the text that was fed calls it", NONE, () -> x.run());
        Check.same("others stay", 0, () -> Check.run(x, "H"));
    }

    private static void promise5Names() {
        about(5, "`name`: the name, A to H");
        ExactTurtle x = new ExactTurtle();
        for (char name = 'A'; name <= 'H'; name++) {
            Check.define(x, name, "u");
        }
        for (char name = 'H'; name >= 'A'; name--) {
            char n = name;
            Check.same("all before " + n, n - 'A' + 1, () -> x.saveProcedures());
            Check.same("undefine " + n, true, () -> x.undefine(n));
        }
        Check.same("none is left", 0, () -> x.saveProcedures());
    }

    private static void promise5Throws() {
        about(5, "Throws `IllegalArgumentException` if the name is not A to H");
        for (char wrong : noNames()) {
            refuses(ARGUMENT, "undefine " + (int) wrong, x -> x.undefine(wrong));
            refuses(ExactTurtle::new, ARGUMENT, "undefine " + (int) wrong + " at first", x -> x.undefine(wrong));
        }
    }

    private static void promise6TheBufferIsEmptyAfterwards() {
        about(6, "The buffer is empty afterwards, also after a syntax error or an exception.");
        about(6, "Parses the input buffer as a program and runs it.");
        String[] texts = {"", "u", "u".repeat(100), ")", "f", "u".repeat(99) + "f", "C", "uC", "301(u)", "2001()", "f9999",
            "C" + "u".repeat(99)};
        for (String text : texts) {
            for (int call = 0; call < 2; call++) {
                ExactTurtle x = filled();
                runAnyhow(x, text);
                boolean feeds = call == 0;
                Check.same("after " + text, feeds ? 1 : 0, () -> feeds ? x.feed('u') : x.define('A'));
            }
        }
    }

    private static void promise6ThePreviousRunStays() {
        about(6, "After a syntax error or an exception, the track and everything else that belongs to the previous "
                + "run stay.");
        Make[] before = {ExactTurtle::new, Boundary::filled, () -> filled(4, "4(f2l1)"), () -> filled(8, "40(A)"),
            () -> filled(6, "")};
        for (Make made : before) {
            answersOnly(made, -100, "run )", x -> Check.run(x, ")"));
            answersOnly(made, -104, "run r1f3)", x -> Check.run(x, "r1f3)"));
            answersOnly(made, -106, "run ur1f3l", x -> Check.run(x, "ur1f3l"));
            answersOnly(made, -104, "run 1(1(", x -> Check.run(x, "1(1("));
            runFails(made, NONE, "r1f3ur5f1C");
            runFails(made, STATE, "r1f3u299(d)");
            runFails(made, STATE, "r1f3u2001()");
            runFails(made, RANGE, "ur1f3r1f1f9999");
        }
    }

    private static void promise6NumberOfBasicCommands() {
        about(6, "Returns the number of basic commands that were executed; -100 minus the error position after a "
                + "syntax error.");
        Check.same("none", 0, () -> new ExactTurtle().run());
        Check.same("none in rounds", 0, () -> Check.run(new ExactTurtle(), "2000()"));
        Check.same("one", 1, () -> Check.run(new ExactTurtle(), "f0"));
        Check.same("as often as executed", 12, () -> Check.run(new ExactTurtle(), "3(4(u))0(d)"));
        Check.same("in procedures", 5, () -> Check.run(filled(), "B"));
        Check.same("300", 300, () -> Check.run(new ExactTurtle(), "300(l1)"));
        isWrong("x", 0);
        isWrong("301(u)x", 6);
        isWrong("f9999Cx", 6);
        isWrong("u".repeat(99) + "f", 100);
    }

    private static void promise6ThrowsForUndefinedProcedures() {
        about(6, "Throws `NoSuchElementException` if the run comes to a call of a procedure that is undefined");
        runFails(ExactTurtle::new, NONE, "A");
        runFails(NONE, "C");
        runFails(NONE, "300(u)C");
        runFails(NONE, "2000()C");
        runFails(NONE, "f2500C");
        runFails(() -> {
            ExactTurtle x = chain(7, "H");
            x.undefine('H');
            return x;
        }, NONE, "A");
    }

    private static void promise6ThrowsForTooMany() {
        about(6, "Throws `IllegalStateException` if the run needs too many basic commands, active calls or rounds");
        runFails(STATE, "301(u)");
        runFails(() -> chain(8, "A"), STATE, "A");
        runFails(STATE, "2001()");
        Check.same("300 in 8 active calls and 2000 rounds", 300, () -> Check.run(chain(8, "30(5(ud))1820()"), "A"));
        runFails(() -> chain(8, "30(5(ud))1820()"), STATE, "uA");
        runFails(() -> chain(8, "30(5(ud))1820()"), STATE, "1(A)");
        runFails(() -> chain(8, "30(5(ud))1820()A"), STATE, "A");
    }

    private static void promise6ThrowsForTheRange() {
        about(6, "Throws `ArithmeticException` if a part of a point would leave its range");
        runFails(RANGE, "f2501");
        runFails(RANGE, "l6f2501");
        runFails(RANGE, "l3f2501");
        runFails(RANGE, "r3f2501");
        runFails(RANGE, "l1f5001");
        runFails(RANGE, "299(u)f2501");
        Check.same("the last command within the range", 300, () -> Check.run(filled(), "299(u)f2500"));
        Check.same("after 2000 rounds", 1, () -> Check.run(filled(), "2000()f2500"));
        runFails(RANGE, "2000()f2501");
    }
}

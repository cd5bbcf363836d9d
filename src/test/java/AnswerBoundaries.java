/** The sentences of the promises 19 to 30, and those of the description on details that belong to them. */
final class AnswerBoundaries extends Boundary {
    private static final String PROSE = "Description";

    private AnswerBoundaries() {
    }

    static void all() {
        promise19Turns();
        promise19TheStartPoint();
        promise19Sides();
        promise19NoSegments();
        promise19Throws();
        promise20Pairs();
        promise20Rotations();
        promise20AtLeast1();
        promise20Throws();
        promise21ReadBackward();
        promise21Throws();
        promise22ToTheEndOfTheRun();
        promise22TheLowestWalk();
        promise22Limits();
        promise22ThrowsWithoutAWalk();
        emptyOutput();
        promise23EmptyAtFirst();
        promise23From0();
        promise23Throws();
        promise24WithoutNames();
        promise24LeadingZeros();
        promise24TheSameCommands();
        promise24NoBasicCommands();
        promise24Throws();
        promise25From0();
        promise25Throws();
        promise26NotCalled();
        promise26Names();
        promise27InPlaceOfAnEarlierOne();
        promise27RunsThatDoNotFail();
        promise27MinusOneAtFirst();
        promise27Sizes();
        promise27Throws();
        traceAndOutputStay();
        promise28Answers();
        promise28Indices();
        promise29InPlaceOfThoseBefore();
        promise29Number();
        promise30StaySaved();
        undefinedInWhatWasSaved();
        promise30Number();
        promise30Throws();
    }

    /** The corners, the order of symmetry, and whether it is mirrored. */
    private static void sameSides(int corners, int order, boolean mirrored, int d, String text) {
        String what = " by " + d + " of " + text;
        Check.same("corners" + what, corners, () -> Check.after(d, text).corners());
        Check.same("symmetry" + what, order, () -> Check.after(d, text).symmetry());
        Check.same("mirrored" + what, mirrored, () -> Check.after(d, text).isMirrored());
    }

    private static void promise19Turns() {
        about(19, "For a smooth track, a corner is a point between two segments of different directions; its turn is "
                + "the difference of their directions, from 1 to d - 1 to the left.");
        for (int d : DIRECTIONS) {
            sameSides(d, d, true, d, d + "(f1l1)");
            sameSides(d, d, true, d, d + "(f1r1)");
            sameSides(d, d, true, d, d + "(f1l" + (d - 1) + ")");
            sameSides(d, d, true, d, d + "(f1l" + (d + 1) + ")");
            sameSides(2, 2, true, d, "2(f1l" + d / 2 + ")");
            sameSides(2, 2, true, d, "2(f1r" + d / 2 + ")");
            // A whole turn between two segments, or one that is taken back, is no corner.
            sameSides(2, 2, true, d, "2(f1l" + d + "f1l" + d / 2 + ")");
            sameSides(2, 2, true, d, "2(f1l1r1f1l" + d / 2 + ")");
            sameSides(2, 2, true, d, "2(f1f0uf1dl" + d / 2 + ")");
        }
        // Turns of 1 and of 3, to the left, are not the same.
        sameSides(12, 4, true, 4, "4(f1r1f1l1f1l1)");
        sameSides(12, 4, false, 4, "4(f2r1f1l1f1l1)");
    }

    private static void promise19TheStartPoint() {
        about(19, "The start point counts as a point between the last and the first segment.");
        sameSides(4, 4, true, 4, "4(f2l1)");
        sameSides(4, 4, true, 4, "f1l1f2l1f2l1f2l1f1");
        sameSides(4, 4, true, 4, "l1f2l1f2l1f2l1f2");
        sameSides(4, 4, true, 4, "l2f1l1f2l1f2l1f2l1f1l2");
        sameSides(2, 2, true, 4, "f1l2f2l2f1");
        sameSides(2, 2, true, 4, "f1l2f1l2");
        sameSides(3, 3, true, 6, "f1l2f3l2f3l2f2");
        sameSides(2, 2, true, 12, "l7f1l6f1r1");
    }

    private static void promise19Sides() {
        about(19, "Segments between consecutive corners are joined to sides, whose lengths are added.");
        sameSides(4, 4, true, 4, "f1f2l1f3l1f2f1l1f1f1f1l1");
        sameSides(4, 4, true, 4, "f1l1f2l1f1f1l1f2l1f1");
        sameSides(4, 2, true, 4, "f1f1l1f3l1f2l1f3l1");
        sameSides(4, 4, true, 4, "f1uf1l1f1df1l1uf2l1f2l1");
        sameSides(4, 4, true, 4, "f0f2l1f2f0l1f1f0f1l1f2l1f0");
        sameSides(4, 4, true, 4, "4(74(f1)l1)");
        sameSides(2, 2, true, 4, "f2500l2f2500l2");
    }

    private static void promise19NoSegments() {
        about(19, "Returns the number of corners, which is 0 for a track without segments.");
        Check.same("at first", 0, () -> new ExactTurtle().corners());
        for (int d : DIRECTIONS) {
            for (String text : new String[] {"", "ud", "f0", "f0l0r0", "l" + d, "r" + 2 * d, "l1r1", "2000()", "H"}) {
                Check.same("corners by " + d + " of " + text, 0, () -> filled(d, text).corners());
            }
            Check.same("with directions set", 0, () -> turtle(d).corners());
            Check.same("with two segments", 2, () -> filled(d, "f1l" + d / 2 + "f1l" + d / 2).corners());
        }
    }

    /** Tracks that are not smooth: open, turned, or both. */
    private static void refusesTracks(Act asked) {
        for (int d : DIRECTIONS) {
            for (String text : new String[] {"f1", "f1l" + d, "l1", "l" + (d - 1), "r1", "l" + (d + 1), "f1l" + d / 2 + "f1",
                "f1l" + d / 2 + "f1l" + (d / 2 - 1), "f1l" + d / 2 + "f2l" + d / 2, "f1l" + d / 2 + "f1r" + (d / 2 + 1)}) {
                refuses(() -> filled(d, text), STATE, "by " + d + " of " + text, asked);
            }
        }
        refuses(() -> filled(12, "l1f1r2f1l1"), STATE, "open by a factor", asked);
        refuses(() -> filled(12, "l2f1l2f1r4"), STATE, "open by a factor of y", asked);
    }

    private static void refusesTracksWithoutCorners(Act asked) {
        refuses(ExactTurtle::new, STATE, "at first", asked);
        for (int d : DIRECTIONS) {
            for (String text : new String[] {"", "u", "f0", "l" + d, "2000()", "H"}) {
                refuses(() -> filled(d, text), STATE, "by " + d + " of " + text, asked);
            }
            refuses(() -> turtle(d), STATE, "with directions set to " + d, asked);
        }
    }

    private static void promise19Throws() {
        about(19, "Throws `IllegalStateException` if the track is not smooth");
        refusesTracks(x -> x.corners());
    }

    private static void promise20Pairs() {
        about(20, "The sides of the track and the turns at their ends form a cyclic sequence of pairs of a length "
                + "and a turn, in the order of the track.");
        sameSides(4, 2, true, 4, "2(f2l1f3l1)");
        sameSides(4, 2, true, 6, "2(f1l1f1l2)");
        sameSides(4, 2, false, 6, "2(f1l1f2l2)");
        sameSides(4, 2, false, 6, "2(f1l2f2l1)");
        sameSides(6, 3, true, 6, "3(f1l1f2l1)");
        sameSides(6, 6, true, 6, "6(f2l1)");
        sameSides(4, 1, true, 6, "f2l2f1l1f1l1f1l2");
    }

    private static void promise20Rotations() {
        about(20, "The order of symmetry is the number of rotations of this sequence, from 0 to its length minus 1, "
                + "that leave it unchanged.");
        sameSides(2, 2, true, 4, "f1l2f1l2");
        sameSides(12, 12, true, 12, "12(f1l1)");
        sameSides(12, 12, true, 12, "12(f1l5)");
        sameSides(8, 8, true, 4, "8(f2l1)");
        sameSides(8, 8, true, 8, "8(f1l3)");
        sameSides(148, 148, true, 4, "148(f2l1)");
        sameSides(150, 150, true, 4, "75(f2l2f2l2)");
    }

    private static void promise20AtLeast1() {
        about(20, "Returns the order, at least 1.");
        sameSides(6, 1, true, 4, "f2l1f1l1f1r1f1l1f1l1f2l1");
        sameSides(6, 1, false, 4, "f3l1f1l1f2r1f1l1f1l1f2l1");
        sameSides(5, 1, true, 12, "f1l3f1l1f1l4f1l1f1l3");
        sameSides(2, 2, true, 4, "2(f1l2)");
    }

    private static void promise20Throws() {
        about(20, "Throws `IllegalStateException` if the track is not smooth or has no corner");
        refusesTracks(x -> x.symmetry());
        refusesTracksWithoutCorners(x -> x.symmetry());
    }

    private static void promise21ReadBackward() {
        about(21, "Returns whether a smooth track has a mirror symmetry: whether the cyclic sequence of its lengths "
                + "and turns, which alternate, is the same as a rotation of itself read backward, with lengths on "
                + "lengths and turns on turns.");
        // Read backward, these are rotations of themselves only with lengths on turns.
        sameSides(5, 1, false, 4, "f1l1f1l1f1l3f2l2f3l1");
        sameSides(4, 2, false, 6, "2(f1l1f2l2)");
        sameSides(4, 2, false, 8, "2(f1l1f3l3)");
        sameSides(4, 2, false, 12, "2(f1l1f5l5)");
        // Mirrors through two corners, through two sides, and through a corner and a side.
        sameSides(4, 2, true, 6, "2(f1l1f1l2)");
        sameSides(4, 1, true, 6, "f2l2f1l1f1l1f1l2");
        sameSides(4, 1, true, 6, "f1l2f2l2f1l1f1l1");
        sameSides(4, 1, true, 6, "f1l1f1l2f2l2f1l1");
        sameSides(4, 1, true, 6, "f1l1f1l1f1l2f2l2");
        sameSides(5, 1, true, 12, "f1l3f1l1f1l4f1l1f1l3");
        sameSides(5, 1, true, 12, "f1l1f1l4f1l1f1l3f1l3");
        sameSides(5, 1, true, 12, "f1l4f1l1f1l3f1l3f1l1");
        sameSides(2, 2, true, 4, "f1l2f1l2");
        sameSides(8, 2, false, 4, "2(f2l1f1r1f1l1f1l1)");
        about(21, "Returns true if it has.");
        sameSides(4, 2, true, 4, "2(f2l1f3l1)");
    }

    private static void promise21Throws() {
        about(21, "Throws `IllegalStateException` if the track is not smooth or has no corner");
        refusesTracks(x -> x.isMirrored());
        refusesTracksWithoutCorners(x -> x.isMirrored());
    }

    /** The walk that is found with the least limit and with the greatest one, and none with less. */
    private static void sameWalk(String due, int d, String text) {
        for (int limit = due.length(); limit <= 8; limit++) {
            int n = limit;
            ExactTurtle x = filled(d, text);
            String what = "walk of " + n + " by " + d + " to " + text;
            Check.same(what, due.length(), () -> x.shortestWalk(n));
            for (int i = 0; i < due.length(); i++) {
                int place = i;
                Check.same(what + " at " + place, due.charAt(place), () -> x.outputAt(place));
            }
            Check.raises(what + " has an end", INDEX, () -> x.outputAt(due.length()));
        }
        for (int limit = 0; limit < due.length(); limit++) {
            int n = limit;
            refuses(() -> filled(d, text), NONE, "walk of " + n + " by " + d + " to " + text, x -> x.shortestWalk(n));
        }
    }

    private static void promise22ToTheEndOfTheRun() {
        about(22, "Finds the shortest walk from the start point in direction 0 to the end of the run, that is, to "
                + "the last point of the track in the direction at its end.");
        sameWalk("", 4, "");
        sameWalk("f", 4, "uf1");
        sameWalk("fl", 4, "f1l1");
        sameWalk("lf", 4, "l1f1");
        sameWalk("lfr", 4, "l1f1r1");
        sameWalk("f", 4, "f2l2f1l2");
        sameWalk("", 12, "12(f1l1)");
        sameWalk("r", 12, "11(f1l1)f1");
        sameWalk("l", 8, "l9");
        sameWalk("f", 6, "l1f1r2f1l1");
    }

    private static void promise22TheLowestWalk() {
        about(22, "Of the walks with the fewest commands, the one that is lowest in alphabetical order, with f "
                + "before l before r, is written to the output buffer, each command by its letter alone.");
        about(22, "A walk is a sequence of the commands f1, l1 and r1.");
        sameWalk("ll", 4, "r2");
        sameWalk("lll", 6, "r3");
        sameWalk("llll", 8, "r4");
        sameWalk("llllll", 12, "r6");
        sameWalk("r", 4, "l3");
        sameWalk("rr", 6, "l4");
        sameWalk("rrr", 8, "l5");
        sameWalk("rrrrr", 12, "l7");
        sameWalk("llf", 4, "r2f1");
        sameWalk("llfll", 4, "r2f1r2");
        sameWalk("flfr", 4, "l1f1r1f1");
        sameWalk("fl", 4, "f1r3");
        sameWalk("frf", 4, "f1r1f1");
        sameWalk("flfr", 6, "l1f1r1f1");
    }

    private static void promise22Limits() {
        about(22, "`limit`: the greatest number of commands that is tried, 0 to 8");
        about(22, "Throws `IllegalArgumentException` if the limit is out of range");
        for (int limit = 0; limit <= 8; limit++) {
            int n = limit;
            Check.same("limit " + n, 0, () -> new ExactTurtle().shortestWalk(n));
            Check.same("walk of " + n, n, () -> Check.after(4, "f" + n).shortestWalk(n));
        }
        for (int wrong : outside(0, 8)) {
            refuses(ARGUMENT, "limit " + wrong, x -> x.shortestWalk(wrong));
            refuses(ExactTurtle::new, ARGUMENT, "limit " + wrong + " at first", x -> x.shortestWalk(wrong));
            refuses(() -> filled(4, "f1"), ARGUMENT, "limit " + wrong + " for one command", x -> x.shortestWalk(wrong));
        }
    }

    private static void promise22ThrowsWithoutAWalk() {
        about(22, "Throws `NoSuchElementException` if there is no walk with at most this number of commands");
        about(22, "Returns the number of commands.");
        sameWalk("ffffffff", 4, "f8");
        sameWalk("ffffffff", 12, "f8");
        sameWalk("fffffffl", 6, "f7l1");
        sameWalk("llllllff", 12, "l6f2");
        sameWalk("rrrrrfff", 12, "l7f3");
        for (String text : new String[] {"f9", "f8l1", "l6f3", "f2500", "l1f1r2f1"}) {
            for (int limit = 0; limit <= (text.startsWith("l1") ? 3 : 8); limit++) {
                int n = limit;
                refuses(() -> filled(12, text), NONE, "walk of " + n + " to " + text, x -> x.shortestWalk(n));
            }
        }
    }

    private static void emptyOutput() {
        about(PROSE, "A shortest walk of no commands empties the output buffer.");
        for (int limit = 0; limit <= 8; limit++) {
            int n = limit;
            ExactTurtle x = filled(4, "4(f1l1)");
            Check.same("before", 'f', () -> x.outputAt(0));
            Check.same("a walk of no commands", 0, () -> x.shortestWalk(n));
            Check.raises("the buffer is empty", INDEX, () -> x.outputAt(0));
        }
        Check.same("a refused one does not", 'f', () -> {
            ExactTurtle x = filled(4, "4(f1l1)");
            Check.raises("limit -1", ARGUMENT, () -> x.shortestWalk(-1));
            return x.outputAt(2);
        });
        Check.same("nor does one that is not found", 'f', () -> {
            ExactTurtle x = filled(4, "f1");
            Check.raises("limit 0", NONE, () -> x.shortestWalk(0));
            return x.outputAt(2);
        });
    }

    private static void promise23EmptyAtFirst() {
        about(23, "Returns a character of the output buffer, which is empty at first.");
        for (int place : new int[] {0, 1, 7, 8}) {
            refuses(ExactTurtle::new, INDEX, "place " + place + " at first", x -> x.outputAt(place));
            refuses(() -> turtle(8), INDEX, "place " + place + " with directions set", x -> x.outputAt(place));
            refuses(() -> Check.after(4, "f1l1f1"), INDEX, "place " + place + " after a run", x -> x.outputAt(place));
        }
    }

    private static void promise23From0() {
        about(23, "`i`: the place, from 0");
        ExactTurtle x = Check.after(12, "f1l1f2r1r1");
        Check.same("a walk", 6, () -> x.shortestWalk(6));
        String due = "flffrr";
        for (int i = 0; i < due.length(); i++) {
            int place = i;
            Check.same("place " + place, due.charAt(place), () -> x.outputAt(place));
            Check.same("place " + place + " again", due.charAt(place), () -> x.outputAt(place));
        }
    }

    private static void promise23Throws() {
        about(23, "Throws `IndexOutOfBoundsException` if there is no such place");
        for (int length = 0; length <= 8; length++) {
            int n = length;
            Make made = () -> {
                ExactTurtle x = Check.after(4, "f" + n);
                x.shortestWalk(8);
                return x;
            };
            refuses(made, INDEX, "place -1 of " + n, x -> x.outputAt(-1));
            refuses(made, INDEX, "place " + n + " of " + n, x -> x.outputAt(n));
            if (n > 0) {
                Check.same("place " + (n - 1) + " of " + n, 'f', () -> made.make().outputAt(n - 1));
            }
        }
        for (int wrong : outside(0, 2)) {
            refuses(INDEX, "place " + wrong, x -> x.outputAt(wrong));
        }
        ExactTurtle x = Check.after(4, "f8");
        x.shortestWalk(8);
        Check.run(x, "l1");
        x.shortestWalk(8);
        Check.same("a short walk after a long one", 'l', () -> x.outputAt(0));
        Check.raises("what the long one left", INDEX, () -> x.outputAt(1));
    }

    private static void sameText(int due, String text) {
        Check.same("shortest text of " + text, due, () -> filled(12, text).shortestText());
    }

    private static void promise24WithoutNames() {
        about(24, "Returns the length of the shortest text of a program that does not contain names and that "
                + "executes the same basic commands as the run, in the same order.");
        sameText(4, "A");
        sameText(7, "AA");
        sameText(8, "B");
        sameText(8, "HBH");
        // A repetition is written where it is shorter, not where it is as long or longer.
        sameText(2, "uu");
        sameText(3, "3(u)");
        sameText(4, "4(u)");
        sameText(4, "5(u)");
        sameText(4, "2(ud)");
        sameText(5, "3(ud)");
        sameText(4, "2(f1)");
        sameText(5, "3(f1)");
        sameText(6, "2(f10)");
        sameText(7, "2(f100)");
        sameText(6, "2(f1u)");
        sameText(7, "2(f1l1)");
        sameText(9, "6(5(f0)d)");
        sameText(6, "20(ud)");
        sameText(12, "2(3(ud)l1l2)");
        sameText(1, "1(1(1(1(1(1(u))))))");
        sameText(2, "ud0(l1)");
    }

    private static void promise24LeadingZeros() {
        about(24, "Numbers are written without leading zeros; a number and the number of a repetition that follows "
                + "it are counted as if they could be told apart.");
        for (String letter : new String[] {"f", "l", "r"}) {
            sameText(2, letter + "0");
            sameText(2, letter + "0000");
            sameText(2, letter + "9");
            sameText(2, letter + "0009");
            sameText(3, letter + "10");
            sameText(3, letter + "0010");
            sameText(3, letter + "99");
            sameText(4, letter + "100");
            sameText(4, letter + "0999");
            sameText(5, letter + "1000");
        }
        sameText(5, "l9999");
        sameText(4, "0009(u)");
        sameText(4, "9(u)");
        sameText(5, "10(u)");
        sameText(5, "40(u)");
        sameText(6, "f1uuuuuuuuu");
        sameText(9, "f10009(u)");
        sameText(10, "l5000010(d)");
    }
    private static void promise24TheSameCommands() {
        about(24, "Basic commands are the same if their letters and their numbers are the same.");
        sameText(3, "uuu");
        sameText(6, "uuuddd");
        sameText(5, "f1f1f1");
        sameText(5, "f1f01f0001");
        sameText(6, "f1f1f2");
        sameText(6, "f0l0r0");
        sameText(6, "l1r1l1");
        sameText(7, "l1l13l1");
        sameText(8, "l1l13l25");
        sameText(10, "f1f1f1l1l1l1");
        sameText(6, "f12f12f12");
    }

    private static void promise24NoBasicCommands() {
        about(24, "Returns the number of characters, 0 for a run without basic commands.");
        Check.same("at first", 0, () -> new ExactTurtle().shortestText());
        Check.same("with directions set", 0, () -> {
            ExactTurtle x = filled(4, "f1l1");
            x.setDirections(4);
            return x.shortestText();
        });
        for (String text : new String[] {"", "0(u)", "3()", "2000()", "H", "HHH2(H)", "0(A)"}) {
            sameText(0, text);
        }
        sameText(1, "u");
        sameText(2, "f0");
    }

    private static void promise24Throws() {
        about(24, "Throws `IllegalStateException` if the run had more than 40 basic commands");
        sameText(5, "39(u)");
        sameText(5, "40(u)");
        sameText(6, "40(f0)");
        sameText(8, "20(A)");
        sameText(11, "30(d)9(u)l1");
        for (String text : new String[] {"41(u)", "40(u)d", "d40(u)", "41(f0)", "20(A)u", "300(u)", "31(d)9(u)l1"}) {
            refuses(() -> filled(12, text), STATE, "shortest text of " + text, x -> x.shortestText());
        }
        Check.same("of a run after one that was too long", 1, () -> {
            ExactTurtle x = filled(12, "41(u)");
            Check.run(x, "u");
            return x.shortestText();
        });
    }

    private static ExactTurtle allNames(String text) {
        ExactTurtle x = new ExactTurtle();
        for (char name = 'A'; name <= 'H'; name++) {
            x.define(name);
        }
        Check.runRight(x, text);
        return x;
    }

    private static void sameCalled(String text, String due) {
        for (int i = 0; i < due.length(); i++) {
            int n = i;
            Check.same("called " + n + " of " + text, due.charAt(n), () -> allNames(text).called(n));
        }
        refuses(() -> allNames(text), INDEX, "called " + due.length() + " of " + text, x -> x.called(due.length()));
        refuses(() -> allNames(text), INDEX, "called -1 of " + text, x -> x.called(-1));
    }

    private static void promise25From0() {
        about(25, "`i`: the index, from 0, in the order in which the procedures were called for the first time");
        sameCalled("", "");
        sameCalled("A", "A");
        sameCalled("AAA", "A");
        sameCalled("HAHAH", "HA");
        sameCalled("ABCDEFGH", "ABCDEFGH");
        sameCalled("HGFEDCBAH", "HGFEDCBA");
        sameCalled("2(DB0(A)D)C", "DBC");
        Check.same("the one that calls", 'B', () -> filled(4, "B").called(0));
        Check.same("before the one that it calls", 'A', () -> filled(4, "B").called(1));
    }

    private static void promise25Throws() {
        about(25, "Throws `IndexOutOfBoundsException` if there is no such procedure");
        refuses(ExactTurtle::new, INDEX, "called 0 at first", x -> x.called(0));
        Check.same("called 1", 'A', () -> filledAndFed().called(1));
        Check.same("called 2", 'H', () -> filledAndFed().called(2));
        for (int wrong : outside(0, 2)) {
            refuses(INDEX, "called " + wrong, x -> x.called(wrong));
        }
        for (int wrong : outside(0, 7)) {
            refuses(() -> allNames("ABCDEFGH"), INDEX, "called " + wrong + " of 8", x -> x.called(wrong));
        }
        refuses(() -> filled(4, "0(AB)"), INDEX, "called 0 of none after a run that called some", x -> x.called(0));
    }

    private static void promise26NotCalled() {
        about(26, "Returns the number of calls, 0 if it was not called or there is no such name.");
        for (char name = 'A'; name <= 'H'; name++) {
            char n = name;
            Check.same(n + " at first", 0, () -> new ExactTurtle().calls(n));
            Check.same(n + " that never happens", 0, () -> allNames("0(" + n + ")").calls(n));
            Check.same(n + " after an earlier run", 0, () -> {
                ExactTurtle x = allNames("" + n);
                x.run();
                return x.calls(n);
            });
            Check.same(n + " once", 1, () -> allNames("" + n).calls(n));
            Check.same(n + " as often as rounds", 2000, () -> allNames("2000(" + n + ")").calls(n));
        }
        for (char wrong : noNames()) {
            Check.same("no name " + (int) wrong, 0, () -> allNames("ABCDEFGH").calls(wrong));
            Check.same("no name " + (int) wrong + " at first", 0, () -> new ExactTurtle().calls(wrong));
        }
    }

    private static void promise26Names() {
        about(26, "`name`: the name");
        ExactTurtle x = allNames("ABBCCCDDDDEEEEEFFFFFFGGGGGGGHHHHHHHH");
        for (char name = 'A'; name <= 'H'; name++) {
            char n = name;
            Check.same("calls of " + n, n - 'A' + 1, () -> x.calls(n));
        }
    }

    private static void sameTrace(ExactTurtle x, int... due) {
        for (int i = 0; i < due.length; i++) {
            int n = i;
            Check.same("element " + n, due[n], () -> x.traceAt(n));
        }
        Check.same("the end of the trace", -13, () -> x.traceAt(due.length));
    }

    private static void promise27InPlaceOfAnEarlierOne() {
        about(27, "Creates a trace for the following runs, in place of an earlier one.");
        ExactTurtle x = Check.after(12, "l5");
        x.createTrace(3);
        sameTrace(x, -1, -1, -1);
        Check.run(x, "l1l1l1");
        sameTrace(x, 1, 2, 3);
        x.createTrace(3);
        sameTrace(x, -1, -1, -1);
        Check.run(x, "l1l1l1");
        x.createTrace(1);
        sameTrace(x, -1);
        x.createTrace(4);
        sameTrace(x, -1, -1, -1, -1);
        Check.run(x, "l1");
        x.createTrace(0);
        sameTrace(x);
        Check.run(x, "l1");
        sameTrace(x);
        x.createTrace(1);
        sameTrace(x, -1);
    }

    private static void promise27RunsThatDoNotFail() {
        about(27, "During a run that does not fail, its elements get the directions after the first, second, and "
                + "further basic commands, as many as it has elements; elements beyond the last basic command stay "
                + "as they are.");
        ExactTurtle x = turtle(12);
        x.createTrace(3);
        Check.run(x, "l7l1");
        sameTrace(x, 7, 8, -1);
        Check.run(x, "l1l1l1");
        sameTrace(x, 1, 2, 3);
        Check.run(x, "r1r1r1r1");
        sameTrace(x, 11, 10, 9);
        Check.run(x, "l4");
        sameTrace(x, 4, 10, 9);
        Check.run(x, "");
        sameTrace(x, 4, 10, 9);
        Check.run(x, "9()");
        sameTrace(x, 4, 10, 9);
        Check.run(x, "f0ud");
        sameTrace(x, 0, 0, 0);
        Check.run(x, "l2f1l12");
        sameTrace(x, 2, 2, 2);
        for (String wrong : new String[] {"l1l1l1A", "l1l1u301(u)", "l1l1u2001()", "l1f9999", "l1l1)", "l1l1l1l"}) {
            runAnyhow(x, wrong);
            sameTrace(x, 2, 2, 2);
        }
        Check.run(x, "3(l1)");
        sameTrace(x, 1, 2, 3);
        theLongestTrace();
    }

    private static void theLongestTrace() {
        ExactTurtle x = turtle(12);
        x.createTrace(300);
        Check.run(x, "299(l1)");
        Check.same("the 299th", 299 % 12, () -> x.traceAt(298));
        Check.same("the 300th stays", -1, () -> x.traceAt(299));
        Check.run(x, "300(r1)");
        Check.same("the 300th", 0, () -> x.traceAt(299));
        Check.same("the 299th again", 1, () -> x.traceAt(298));
        x.createTrace(299);
        Check.run(x, "300(r1)");
        Check.same("the 299th of 299", 1, () -> x.traceAt(298));
        Check.same("no 300th", -13, () -> x.traceAt(299));
    }

    private static void promise27MinusOneAtFirst() {
        about(27, "All elements are -1 at first.");
        for (int size : new int[] {1, 2, 299, 300}) {
            ExactTurtle x = filled();
            Check.same("size " + size, size, () -> x.createTrace(size));
            for (int i = 0; i < size; i++) {
                int n = i;
                Check.same("element " + n + " of " + size, -1, () -> x.traceAt(n));
            }
            Check.same("the end of " + size, -13, () -> x.traceAt(size));
        }
    }

    private static void promise27Sizes() {
        about(27, "`size`: the number of elements, at most 300");
        about(27, "Returns the size; NEGATIVE_SIZE if it is negative.");
        for (int size : new int[] {0, 1, 2, 299, 300}) {
            Check.same("size " + size, size, () -> filled().createTrace(size));
            Check.same("size " + size + " at first", size, () -> new ExactTurtle().createTrace(size));
        }
        for (int wrong : new int[] {-1, -2, -14, -300, -301, Integer.MIN_VALUE, Integer.MIN_VALUE + 1}) {
            answersOnly(Boundary::filledAndFed, -14, "size " + wrong, x -> x.createTrace(wrong));
            answersOnly(ExactTurtle::new, -14, "size " + wrong + " at first", x -> x.createTrace(wrong));
        }
    }

    private static void promise27Throws() {
        about(27, "Throws `IllegalArgumentException` if the size is greater than 300");
        for (int wrong : new int[] {301, 302, 1000, 65536, Integer.MAX_VALUE - 1, Integer.MAX_VALUE}) {
            refuses(ARGUMENT, "size " + wrong, x -> x.createTrace(wrong));
            refuses(ExactTurtle::new, ARGUMENT, "size " + wrong + " at first", x -> x.createTrace(wrong));
        }
        Check.same("300", 300, () -> filled().createTrace(300));
    }

    private static void traceAndOutputStay() {
        about(PROSE, "When directions are set, the trace keeps its elements, and the output buffer stays.");
        for (int d : DIRECTIONS) {
            ExactTurtle x = turtle(12);
            x.createTrace(4);
            Check.run(x, "f1l11f1");
            x.shortestWalk(8);
            x.setDirections(d);
            sameTrace(x, 0, 11, 11, -1);
            Check.same("the output's start", 'f', () -> x.outputAt(0));
            Check.same("the output's end", 'f', () -> x.outputAt(2));
            Check.raises("the output ends there", INDEX, () -> x.outputAt(3));
            Check.run(x, "r1");
            sameTrace(x, d - 1, 11, 11, -1);
            ExactTurtle none = new ExactTurtle();
            none.setDirections(d);
            Check.same("no trace", -11, () -> none.traceAt(0));
            Check.raises("no output", INDEX, () -> none.outputAt(0));
        }
    }

    private static void promise28Answers() {
        about(28, "Returns the element; NO_TRACE if there is no trace; NO_INDEX if there is no such index.");
        for (int i : outside(0, 0)) {
            answersOnly(ExactTurtle::new, -11, "no trace at " + i, x -> x.traceAt(i));
        }
        answersOnly(ExactTurtle::new, -11, "no trace at 0", x -> x.traceAt(0));
        Check.same("no trace after a refused one", -11, () -> {
            ExactTurtle x = new ExactTurtle();
            x.createTrace(-1);
            Check.raises("301", ARGUMENT, () -> x.createTrace(301));
            return x.traceAt(0);
        });
        for (int d : DIRECTIONS) {
            ExactTurtle x = turtle(d);
            x.createTrace(3);
            Check.run(x, "l0r1");
            sameTrace(x, 0, d - 1, -1);
        }
    }

    private static void promise28Indices() {
        about(28, "`i`: the index");
        for (int size : new int[] {0, 1, 5, 300}) {
            Make made = () -> {
                ExactTurtle x = filled();
                x.createTrace(size);
                return x;
            };
            if (size > 0) {
                answersOnly(made, -1, "the first of " + size, x -> x.traceAt(0));
                answersOnly(made, -1, "the last of " + size, x -> x.traceAt(size - 1));
            }
            answersOnly(made, -13, "one before the first of " + size, x -> x.traceAt(-1));
            answersOnly(made, -13, "one beyond the last of " + size, x -> x.traceAt(size));
            for (int wrong : outside(0, size)) {
                answersOnly(made, -13, wrong + " of " + size, x -> x.traceAt(wrong));
            }
        }
    }

    private static void promise29InPlaceOfThoseBefore() {
        about(29, "Saves the procedures, in place of those that were saved before.");
        ExactTurtle x = filled();
        Check.same("others than before", 3, () -> x.saveProcedures());
        Check.define(x, 'A', "");
        Check.same("what is saved now", 3, () -> x.restoreProcedures());
        Check.same("is the A of now", 2, () -> Check.run(x, "A"));
        Check.raises("and no C", NONE, () -> Check.run(x, "C"));
        for (char name = 'A'; name <= 'H'; name++) {
            x.undefine(name);
        }
        Check.same("none", 0, () -> x.saveProcedures());
        Check.define(x, 'A', "u");
        Check.same("none is saved", 0, () -> x.restoreProcedures());
        Check.raises("not even A", NONE, () -> Check.run(x, "A"));
    }

    private static void promise29Number() {
        about(29, "Returns the number of defined procedures.");
        ExactTurtle x = new ExactTurtle();
        Check.same("none", 0, () -> x.saveProcedures());
        for (char name = 'A'; name <= 'H'; name++) {
            Check.define(x, name, "u");
            int number = name - 'A' + 1;
            Check.same(number + " of them", number, () -> x.saveProcedures());
            Check.same(number + " of them again", number, () -> x.saveProcedures());
        }
        x.undefine('D');
        Check.same("all but D", 7, () -> x.saveProcedures());
        Check.define(x, 'D', "f");
        Check.same("all but D after a wrong text", 7, () -> x.saveProcedures());
        x.define('D');
        Check.same("with an empty D", 8, () -> x.saveProcedures());
    }

    private static void promise30StaySaved() {
        about(30, "Restores the saved procedures, which stay saved.");
        ExactTurtle x = filled();
        for (int i = 0; i < 3; i++) {
            Check.same("two", 2, () -> x.restoreProcedures());
            Check.same("A as it was", 1, () -> Check.run(x, "A"));
            Check.same("with its number", 4, () -> x.point(1, 0));
            Check.same("C as it was", 1, () -> Check.run(x, "C"));
            Check.define(x, 'A', "uuu");
            x.undefine('C');
            Check.define(x, 'H', "A");
            Check.same("others in between", 3, () -> Check.run(x, "H"));
            x.setDirections(DIRECTIONS[i]);
        }
    }

    private static void undefinedInWhatWasSaved() {
        about(PROSE, "Procedures that are undefined in what was saved are undefined when it is restored.");
        for (char name = 'A'; name <= 'H'; name++) {
            char n = name;
            ExactTurtle x = allNames("");
            x.undefine(n);
            Check.same("all but " + n, 7, () -> x.saveProcedures());
            Check.define(x, n, "u");
            Check.same("with " + n, 1, () -> Check.run(x, "" + n));
            Check.same("without " + n + " again", 7, () -> x.restoreProcedures());
            Check.same(n + " is undefined", false, () -> x.undefine(n));
            Check.raises(n + " cannot be called", NONE, () -> Check.run(x, "" + n));
        }
        ExactTurtle none = new ExactTurtle();
        none.saveProcedures();
        Check.define(none, 'A', "u");
        Check.same("none was saved", 0, () -> none.restoreProcedures());
        Check.same("A is undefined", false, () -> none.undefine('A'));
    }

    private static void promise30Number() {
        about(30, "Returns the number of defined procedures.");
        ExactTurtle x = new ExactTurtle();
        x.saveProcedures();
        Check.same("none", 0, () -> x.restoreProcedures());
        for (char name = 'A'; name <= 'H'; name++) {
            Check.define(x, name, "u");
            x.saveProcedures();
            x.undefine('A');
            int number = name - 'A' + 1;
            Check.same(number + " of them", number, () -> x.restoreProcedures());
        }
    }

    private static void promise30Throws() {
        about(30, "Throws `IllegalStateException` if nothing was saved");
        refuses(ExactTurtle::new, STATE, "restore at first", x -> x.restoreProcedures());
        refuses(() -> allNames("ABC"), STATE, "restore with procedures", x -> x.restoreProcedures());
        refuses(() -> {
            ExactTurtle x = allNames("ABC");
            runAnyhow(x, "f9999");
            x.setDirections(8);
            return x;
        }, STATE, "restore after other calls", x -> x.restoreProcedures());
        ExactTurtle none = new ExactTurtle();
        Check.raises("before", STATE, () -> none.restoreProcedures());
        Check.same("none is saved", 0, () -> none.saveProcedures());
        Check.same("which is something", 0, () -> none.restoreProcedures());
    }
}

/** The sentences of the description on tracks, and those of the promises 7 to 18. */
final class TrackBoundaries extends Boundary {
    private static final String PROSE = "Description";

    private TrackBoundaries() {
    }

    static void all() {
        commandsWhoseNumberIsNot0();
        drawnIfThePenWasDown();
        closedIfTheLastPointIsTheStart();
        smoothIfTheDirectionIsThatAtTheStart();
        numbersOfAllSegments();
        runsWithoutBasicCommandsClose();
        promise7Point0();
        promise7Parts();
        promise7Throws();
        promise8AtLeast1();
        promise9From0();
        promise9IsDrawn();
        promise9Throws();
        promise10From0();
        promise11CountsBothWays();
        promise11IsNotReduced();
        promise12IsClosed();
        promise13TheFirstTime();
        promise13AtLeast1();
        promise13Throws();
        promise14TheSum();
        promise14AllSegmentsCount();
        promise14Parts();
        promise14ThrowsForTheTrack();
        promise15AtLeastOneCommonPoint();
        promise15PairsThatDoNotCount();
        promise15DrawnOnes();
        promise16ExactlyOneCommonPoint();
        promise16PairsThatDoNotCount();
        promise17InAscendingOrder();
        promise17Numbers();
        promise17Throws();
        promise18Sides();
        promise18Parts();
        promise18Throws();
    }

    private static void samePoints(int due, String text) {
        Check.same("points of " + text, due, () -> Check.after(4, text).points());
    }

    private static void commandsWhoseNumberIsNot0() {
        about(PROSE, "The track of a run consists of the start point and the points reached by the commands f whose "
                + "number is not 0, in order.");
        samePoints(1, "");
        samePoints(1, "f0");
        samePoints(1, "f00f000f0000");
        samePoints(2, "f1");
        samePoints(2, "f0001");
        samePoints(2, "f0f1f0");
        samePoints(1, "l1r2ud");
        samePoints(1, "300(f0)");
        samePoints(301, "300(f1)");
        samePoints(3, "f1l2f1");
        ExactTurtle x = Check.after(4, "f3f0l2f4f0f0f1");
        Check.same("the first", 6, () -> x.point(1, 0));
        Check.same("the second", -2, () -> x.point(2, 0));
        Check.same("the third", -4, () -> x.point(3, 0));
        Check.same("no segments for f0", 3, () -> x.points() - 1);
    }

    private static void sameDrawn(String text, boolean... due) {
        ExactTurtle x = Check.after(4, text);
        for (int i = 0; i < due.length; i++) {
            int n = i;
            Check.same("segment " + n + " of " + text, due[n], () -> x.isDrawn(n));
        }
        Check.raises("a segment more of " + text, INDEX, () -> x.isDrawn(due.length));
    }

    private static void drawnIfThePenWasDown() {
        about(PROSE, "The step between two consecutive points is a segment; it is drawn if the pen was down.");
        sameDrawn("");
        sameDrawn("f0");
        sameDrawn("f1", true);
        sameDrawn("uf1", false);
        sameDrawn("f1u", true);
        sameDrawn("uf1d", false);
        sameDrawn("uf0df1", true);
        sameDrawn("f1uf0f1", true, false);
        sameDrawn("uudf1", true);
        sameDrawn("udf1duf1", true, false);
        sameDrawn("2(f1u)df1", true, false, true);
    }

    private static void closedIfTheLastPointIsTheStart() {
        about(PROSE, "The track is closed if its last point is its start point.");
        sameClosed(true, 4, "");
        sameClosed(true, 4, "f0");
        sameClosed(true, 4, "f1l2f1");
        sameClosed(false, 4, "f2l2f1");
        sameClosed(false, 4, "f1l2f2");
        sameClosed(false, 4, "f1l2f1f1");
        sameClosed(true, 4, "f1l2f2l2f1");
        sameClosed(true, 12, "12(f1l1)");
        sameClosed(false, 12, "11(f1l1)");
        for (int d : DIRECTIONS) {
            // From the start away along one axis, the other one, and by the least that there is.
            sameClosed(false, d, "f1");
            sameClosed(false, d, "l" + d / 2 + "f1");
            for (int h = 1; h < d; h++) {
                sameClosed(false, d, "l" + h + "f1");
                sameClosed(2 * h == d, d, "f1l" + h + "f1");
            }
        }
        // Only one part is not 0: the factor of x, the integer of y, and the factor of y.
        sameClosed(false, 12, "l1f1r2f1");
        sameClosed(false, 12, "l1f1l4f1");
        sameClosed(false, 12, "l2f1l2f1");
        sameClosed(false, 8, "l1f1r2f1");
        sameClosed(false, 8, "l1f1l2f1");
        // 194 less 112 times the root of 3 is nearly 0.
        sameClosed(false, 12, "l5f56l2f56l5f97");
        sameClosed(true, 12, "l5f56l2f56l4f56l2f56");
    }

    private static void sameClosed(boolean due, int d, String text) {
        Check.same("closed by " + d + ": " + text, due, () -> Check.after(d, text).isClosed());
        Check.same("has an area by " + d + ": " + text, due, () -> {
            try {
                Check.after(d, text).area(0);
                return true;
            } catch (IllegalStateException e) {
                return false;
            }
        });
    }

    private static void smoothIfTheDirectionIsThatAtTheStart() {
        about(PROSE, "It is smooth if it is closed and the direction at the end of the run is the one at its start.");
        for (int d : DIRECTIONS) {
            String square = "0003(f1l" + d / 4 + ")f1";
            String there = "f1l" + d / 2 + "f1";
            for (int turn = 0; turn <= 2 * d; turn++) {
                boolean whole = (turn + d / 2) % d == 0;
                sameSmooth(whole, d, there + "l" + turn, 2);
                sameSmooth(whole, d, there + "r" + turn, 2);
            }
            if (d != 6) {
                sameSmooth(false, d, square, 4);
                sameSmooth(true, d, square + "l" + d / 4, 4);
                sameSmooth(true, d, square + "r" + 3 * d / 4, 4);
            }
            sameSmooth(false, d, "f1l" + d / 2 + "f2l" + d / 2, 2);
            Check.same("without segments", 0, () -> Check.after(d, "l" + d).corners());
            Check.raises("turned on the spot", STATE, () -> Check.after(d, "l" + (d - 1)).corners());
        }
    }

    private static void sameSmooth(boolean smooth, int d, String text, int corners) {
        String what = " by " + d + ": " + text;
        ExactTurtle x = Check.after(d, text);
        if (smooth) {
            Check.same("corners" + what, corners, () -> x.corners());
            Check.same("mirrored" + what, true, () -> x.isMirrored());
        } else {
            Check.raises("corners" + what, STATE, () -> x.corners());
            Check.raises("symmetry" + what, STATE, () -> x.symmetry());
            Check.raises("mirrored" + what, STATE, () -> x.isMirrored());
        }
    }

    private static void numbersOfAllSegments() {
        about(PROSE, "Numbers of segments are those of all segments, drawn or not.");
        Check.same("not drawn before", 1003, () -> Check.after(4, "uf1df3uf1l2df1").firstMeeting());
        Check.same("not drawn between", 2, () -> Check.after(4, "f2uf1l2df1").firstMeeting());
        Check.same("two not drawn between", 3, () -> Check.after(4, "f2uf1f1l2df2").firstMeeting());
        // The square's first and last side are not the first and last segment, so they count.
        Check.same("not drawn before a square", 2005, () -> Check.after(4, "uf2l2f2l2d4(f2l1)").firstMeeting());
        Check.same("nothing before a square", 0, () -> Check.after(4, "4(f2l1)").meetings());
        Check.same("not drawn at the end of a square", 0, () -> Check.after(4, "f2l1f2l1f2l1uf2").meetings());
        Check.same("not drawn behind a square", 3, () -> Check.after(4, "4(f2l1)uf1l2f1").firstMeeting());
        sameDrawn("uf1f1df1uf1", false, false, true, false);
    }

    private static void runsWithoutBasicCommandsClose() {
        about(PROSE, "A run without basic commands closes after one execution.");
        Check.same("at first", 1, () -> new ExactTurtle().closingRepeats());
        for (int d : DIRECTIONS) {
            Check.same("with directions set", 1, () -> turtle(d).closingRepeats());
            for (String text : new String[] {"", "0(f1l1)", "3()", "H", "2(H0(A))", "2000()"}) {
                Check.same("after " + text, 1, () -> filled(d, text).closingRepeats());
                Check.same("is closed after " + text, true, () -> filled(d, text).isClosed());
            }
        }
    }

    private static void promise7Point0() {
        about(7, "`i`: the number of the point, 0 for the start point");
        for (String text : new String[] {"", "f5", "l3f7f2u", "300(f1)"}) {
            for (int part = 0; part < 4; part++) {
                int p = part;
                Check.same("start of " + text, 0, () -> Check.after(12, text).point(0, p));
            }
        }
        Check.same("the last of 301 points", 600, () -> Check.after(4, "300(f1)").point(300, 0));
        Check.same("the last but one", 598, () -> Check.after(4, "300(f1)").point(299, 0));
    }

    private static void promise7Parts() {
        about(7, "`part`: the part, 0 to 3");
        int[] due = {6, 4, 10, -4};
        for (int part = 0; part < 4; part++) {
            int p = part;
            Check.same("part " + p, due[p], () -> Check.after(8, "f3r1f4l3f5").point(3, p));
        }
    }

    private static void promise7Throws() {
        about(7, "Throws `IndexOutOfBoundsException` if there is no such point or part");
        Make one = ExactTurtle::new;
        Make two = () -> filled(8, "l1f3");
        Make most = () -> filled(4, "300(f1)");
        for (int part = 0; part < 4; part++) {
            int p = part;
            Check.same("the only point, part " + p, 0, () -> one.make().point(0, p));
            refuses(one, INDEX, "point 1 of one, part " + p, x -> x.point(1, p));
            Check.same("the last of two, part " + p, p % 2 * 3, () -> two.make().point(1, p));
            refuses(two, INDEX, "point 2 of two, part " + p, x -> x.point(2, p));
            Check.same("the last of 301, part " + p, p == 0 ? 600 : 0, () -> most.make().point(300, p));
            refuses(most, INDEX, "point 301 of 301, part " + p, x -> x.point(301, p));
        }
        for (int wrong : outside(0, 1)) {
            refuses(two, INDEX, "point " + wrong, x -> x.point(wrong, 0));
            refuses(two, INDEX, "point " + wrong + ", part 4", x -> x.point(wrong, 4));
        }
        for (int wrong : outside(0, 3)) {
            refuses(two, INDEX, "part " + wrong, x -> x.point(0, wrong));
            refuses(two, INDEX, "part " + wrong + " of the last point", x -> x.point(1, wrong));
        }
        ExactTurtle x = filled(4, "300(f1)");
        Check.run(x, "f1");
        Check.raises("points of an earlier run", INDEX, () -> x.point(2, 0));
        x.setDirections(4);
        Check.raises("points before the directions were set", INDEX, () -> x.point(1, 0));
    }

    private static void promise8AtLeast1() {
        about(8, "Returns the number of points, at least 1.");
        Check.same("at first", 1, () -> new ExactTurtle().points());
        Check.same("without commands", 1, () -> Check.after(4, "").points());
        Check.same("after an empty run", 1, () -> {
            ExactTurtle x = filled();
            x.run();
            return x.points();
        });
        Check.same("after a failed run", 1, () -> {
            ExactTurtle x = new ExactTurtle();
            runAnyhow(x, "f1A");
            return x.points();
        });
        Check.same("without moves", 1, () -> Check.after(4, "300(l1)").points());
        Check.same("with one", 2, () -> Check.after(4, "299(l1)f1").points());
        Check.same("at most", 301, () -> Check.after(4, "300(f1)").points());
        Check.same("two points at one place", 3, () -> Check.after(4, "f1l2f1").points());
    }

    private static void promise9From0() {
        about(9, "`i`: the number of the segment, from 0; it leads from point i to point i + 1");
        sameDrawn("uf1df2", false, true);
        sameDrawn("f1uf2", true, false);
        Check.same("the last of 299", false, () -> Check.after(4, "298(f1)uf1").isDrawn(298));
        Check.same("the last but one of them", true, () -> Check.after(4, "298(f1)uf1").isDrawn(297));
        Check.same("the first of 298", false, () -> Check.after(4, "uf1d297(f1)").isDrawn(0));
        Check.same("the second of them", true, () -> Check.after(4, "uf1d297(f1)").isDrawn(1));
    }

    private static void promise9IsDrawn() {
        about(9, "Returns true if it is drawn.");
        sameDrawn("u2(f1)d2(f1)", false, false, true, true);
    }

    private static void promise9Throws() {
        about(9, "Throws `IndexOutOfBoundsException` if there is no such segment");
        refuses(ExactTurtle::new, INDEX, "segment 0 of none", x -> x.isDrawn(0));
        refuses(() -> filled(4, "f0u"), INDEX, "segment 0 of f0", x -> x.isDrawn(0));
        Check.same("segment 0 of one", true, () -> filled(4, "f1").isDrawn(0));
        refuses(() -> filled(4, "f1"), INDEX, "segment 1 of one", x -> x.isDrawn(1));
        Check.same("segment 299 of 300", true, () -> filled(4, "300(f1)").isDrawn(299));
        refuses(() -> filled(4, "300(f1)"), INDEX, "segment 300 of 300", x -> x.isDrawn(300));
        for (int wrong : outside(0, 3)) {
            refuses(INDEX, "segment " + wrong, x -> x.isDrawn(wrong));
        }
        ExactTurtle x = filled(4, "3(f1)");
        Check.run(x, "f1");
        Check.raises("segments of an earlier run", INDEX, () -> x.isDrawn(1));
    }

    private static void promise10From0() {
        about(10, "Returns the direction, 0 to d - 1.");
        for (int d : DIRECTIONS) {
            for (int turn = 0; turn <= 3 * d; turn++) {
                String number = "" + turn;
                int left = turn % d;
                int right = (d - left) % d;
                Check.same("l" + number + " by " + d, left, () -> Check.after(d, "l" + number).direction());
                Check.same("r" + number + " by " + d, right, () -> Check.after(d, "r" + number).direction());
            }
            Check.same("l9999 by " + d, 9999 % d, () -> Check.after(d, "l9999").direction());
            Check.same("r9999 by " + d, (d - 9999 % d) % d, () -> Check.after(d, "r9999").direction());
            Check.same("300 times r9999 by " + d, (d - 300 * 9999 % d) % d, () -> Check.after(d, "300(r9999)").direction());
            Check.same("299 times l9999 by " + d, 299 * 9999 % d, () -> Check.after(d, "299(l9999)").direction());
        }
    }

    private static void sameTurning(int due, String text) {
        for (int d : DIRECTIONS) {
            Check.same("turning of " + text, due, () -> Check.after(d, text).turning());
        }
    }

    private static void promise11CountsBothWays() {
        about(11, "Returns the sum of all turns of the run: l counts its number, r counts minus its number.");
        sameTurning(0, "");
        sameTurning(0, "f5ud");
        sameTurning(0, "l0r0");
        sameTurning(1, "l1");
        sameTurning(-1, "r1");
        sameTurning(0, "l5f1r5");
        sameTurning(-1, "l5f1r6");
        sameTurning(1, "l6f1r5");
    }

    private static void promise11IsNotReduced() {
        about(11, "The sum is not reduced.");
        for (int turn : new int[] {3, 4, 5, 6, 7, 8, 9, 11, 12, 13, 24, 360, 9999}) {
            sameTurning(turn, "l" + turn);
            sameTurning(-turn, "r" + turn);
        }
        sameTurning(300 * 9999, "300(l9999)");
        sameTurning(-300 * 9999, "300(r9999)");
    }

    private static void promise12IsClosed() {
        about(12, "Returns true if it is closed.");
        sameClosed(true, 4, "4(f2500l1)");
        sameClosed(false, 4, "3(f2500l1)f2499");
        sameClosed(true, 6, "6(f1666l1)");
        sameClosed(false, 6, "5(f1666l1)f1665");
        sameClosed(true, 4, "u4(f1l1)");
        sameClosed(true, 4, "f1l2f1l3");
        sameClosed(false, 4, "f1l2f1l3f1");
        Check.same("after a failed run as before", true, () -> {
            ExactTurtle x = Check.after(4, "f1l2f1");
            runAnyhow(x, "f1A");
            return x.isClosed();
        });
    }

    private static void sameRepeats(int due, int d, String text) {
        Check.same("repeats by " + d + " of " + text, due, () -> Check.after(d, text).closingRepeats());
    }

    private static void promise13TheFirstTime() {
        about(13, "until the turtle is for the first time at the start point and in direction 0 after an execution.");
        for (int d : DIRECTIONS) {
            for (int h = 1; h < d; h++) {
                int times = 1;
                while (times * h % d != 0) {
                    times++;
                }
                sameRepeats(times, d, "l" + h);
                sameRepeats(times, d, "f1l" + h);
                sameRepeats(times, d, "l" + (h + d) + "f2500");
                sameRepeats(times, d, "f1r" + (d - h));
                // At the start point, but not in direction 0.
                sameRepeats(times, d, "f1l" + d / 2 + "f1l" + (h + d / 2));
            }
        }
        // At the start point and in direction 0 in the middle of an execution.
        sameRepeats(4, 4, "f1l2f1l2f1l1");
        sameRepeats(2, 4, "4(f1l1)f3l2");
        sameRepeats(1, 4, "f1l2f1l2");
        sameRepeats(1, 4, "f1l2f1r2");
        sameRepeats(4, 4, "f1l2f1l2l1");
    }

    private static void promise13AtLeast1() {
        about(13, "Returns the number of executions, at least 1.");
        for (int d : DIRECTIONS) {
            sameRepeats(1, d, "");
            sameRepeats(1, d, "ud");
            sameRepeats(1, d, "f0l0");
            sameRepeats(1, d, "l" + d);
            sameRepeats(1, d, "r" + d);
            sameRepeats(1, d, "f1l" + d / 2 + "f1l" + d / 2);
            sameRepeats(d, d, "l" + (d + 1));
            sameRepeats(d, d, "l" + (d - 1));
        }
    }

    private static void promise13Throws() {
        about(13, "Throws `NoSuchElementException` if this never happens");
        for (int d : DIRECTIONS) {
            for (int h = 0; h < d; h++) {
                String text = "l" + h + "f1r" + h;
                refuses(() -> filled(d, text), NONE, "repeats of " + text, x -> x.closingRepeats());
                sameRepeats(d, d, text + "l1");
                sameRepeats(d, d, text + "r1");
            }
            refuses(() -> filled(d, "f1l" + d), NONE, "turned once round", x -> x.closingRepeats());
            refuses(() -> filled(d, "f1l" + d / 2 + "f2r" + d / 2), NONE, "back too far", x -> x.closingRepeats());
            sameRepeats(1, d, "f1l" + d / 2 + "f1r" + d / 2);
        }
        refuses(() -> filled(12, "l1f1r2f1l1"), NONE, "away by a factor alone", x -> x.closingRepeats());
    }

    private static void sameArea(long integer, long factor, int d, String text) {
        Check.same("area by " + d + " of " + text, integer, () -> Check.after(d, text).area(0));
        Check.same("factor of the area by " + d + " of " + text, factor, () -> Check.after(d, text).area(1));
    }

    private static void promise14TheSum() {
        about(14, "the sum, over all segments, of X * Y' - X' * Y, where X and Y are the doubled coordinates of the "
                + "first and X' and Y' those of the second point of the segment.");
        sameArea(0, 0, 4, "");
        sameArea(0, 0, 4, "l1u");
        sameArea(0, 0, 4, "f1l2f1");
        sameArea(8, 0, 4, "4(f1l1)");
        sameArea(-8, 0, 4, "4(f1r1)");
        sameArea(0, 0, 4, "4(f1l1)4(f1r1)");
        sameArea(16, 0, 4, "8(f1l1)");
        sameArea(8L * 2500 * 2500, 0, 4, "4(f2500l1)");
        sameArea(0, 2, 6, "3(f1l2)");
        sameArea(0, -2, 6, "3(f1r2)");
        sameArea(0, 12, 6, "6(f1l1)");
        sameArea(16, 16, 8, "8(f1l1)");
        sameArea(-16, -16, 8, "8(f1r1)");
        sameArea(48, 24, 12, "12(f1l1)");
        sameArea(0, 4, 8, "2(f1l1f1l3)");
        sameArea(4, 0, 12, "2(f1l1f1l5)");
        sameArea(0, 4, 12, "2(f1l2f1l4)");
        // Rounds of the greatest square go far beyond an int.
        sameArea(35L * 8 * 5000 * 5000, 0, 4, "l2f2500l1f2500l000135(4(f5000l1))l1f2500r1f2500");
        sameArea(-35L * 8 * 5000 * 5000, 0, 4, "l2f2500r1f2500r000135(4(f5000r1))r1f2500l1f2500");
    }

    private static void promise14AllSegmentsCount() {
        about(14, "All segments count, drawn or not.");
        sameArea(32, 0, 4, "u4(f2l1)");
        sameArea(32, 0, 4, "f2l1uf2l1df2l1uf2l1");
        sameArea(32, 0, 4, "uf2l1f2l1f2l1df2");
    }

    private static void promise14Parts() {
        about(14, "`part`: 0 for the integer, 1 for the factor of sqrt(r)");
        about(14, "Throws `IllegalArgumentException` if the part is out of range");
        Make closed = () -> filled(8, "8(f1l1)");
        Check.same("part 0", 16L, () -> closed.make().area(0));
        Check.same("part 1", 16L, () -> closed.make().area(1));
        for (int wrong : outside(0, 1)) {
            refuses(closed, ARGUMENT, "part " + wrong, x -> x.area(wrong));
            refuses(() -> filled(8, "f1"), ARGUMENT, "part " + wrong + " of an open track", x -> x.area(wrong));
            refuses(ExactTurtle::new, ARGUMENT, "part " + wrong + " at first", x -> x.area(wrong));
        }
    }

    private static void promise14ThrowsForTheTrack() {
        about(14, "Throws `IllegalStateException` if the track is not closed");
        for (int part = 0; part < 2; part++) {
            int p = part;
            Check.same("without segments", 0L, () -> new ExactTurtle().area(p));
            Check.same("closed, but not smooth", 0L, () -> Check.after(4, "f1l2f1").area(p));
            refuses(() -> filled(4, "f1"), STATE, "open", x -> x.area(p));
            refuses(() -> filled(4, "f2l2f1"), STATE, "open by one", x -> x.area(p));
            refuses(() -> filled(12, "l1f1r2f1"), STATE, "open by a factor", x -> x.area(p));
            refuses(() -> filled(12, "l2f1l2f1"), STATE, "open by a factor of y", x -> x.area(p));
        }
    }

    /** How many pairs meet and cross, and the first one, or -1. */
    private static void met(String what, int meetings, int crossings, int first, int d, String text) {
        ExactTurtle x = Check.after(d, text);
        Check.same(what + ", meetings", meetings, () -> x.meetings());
        Check.same(what + ", crossings", crossings, () -> x.crossings());
        if (first < 0) {
            Check.raises(what + ", first", NONE, () -> x.firstMeeting());
        } else {
            Check.same(what + ", first", first, () -> x.firstMeeting());
        }
    }

    private static void promise15AtLeastOneCommonPoint() {
        about(15, "Two segments meet if they have at least one common point.");
        met("none at first", 0, 0, -1, 4, "");
        met("crossing", 1, 1, 3, 4, "f2l1f1l1f1l1f2");
        met("an end in the middle of another one", 1, 0, 3, 4, "f2l1f1l1f1l1f1");
        met("an end just before another one", 0, 0, -1, 4, "f2l1f2l1f1l1f1");
        met("a start in the middle of another one", 1, 0, 2, 4, "f2ul2f1r1df1");
        met("a start just beside another one", 0, 0, -1, 4, "f2ul1f1l1f1r1df1");
        met("an end at an end", 1, 0, 4, 4, "f1uf1l1f1l1f1l1df1");
        met("an end just before an end", 0, 0, -1, 4, "f1uf2l1f1l1f1l1df1");
        met("on one line, end at end", 1, 0, 2, 4, "f2uf1l2df1");
        met("on one line, apart", 0, 0, -1, 4, "f2uf2l2df1");
        met("on one line, end at start", 1, 0, 2, 4, "f2ul2f3l2df1uf1");
        met("on one line, overlapping", 1, 0, 2, 4, "f2uf1l2df2");
        met("on one line, within", 1, 0, 2, 4, "f4ul2f1df1");
        met("one upon the other", 1, 0, 2, 4, "f2ul2f2l2df2");
        met("side by side", 0, 0, -1, 4, "f2l1uf1l1df2");
        // An upright line at 41 times the root of 3, and one aslant that comes to it, or not quite, or goes beyond.
        met("aslant, just before", 0, 0, -1, 12, "ul1f82r4df82ur4f82l4f10l4df81");
        met("aslant, just at it", 1, 0, 1004, 12, "ul1f82r4df82ur4f82l4f10l4df82");
        met("aslant, just beyond", 1, 1, 1004, 12, "ul1f82r4df82ur4f82l4f10l4df83");
        // The same line, at a little more than 71, and one along the axis.
        met("level, just before", 0, 0, -1, 12, "ul1f82r4df82ur4f82r5df71");
        met("level, just beyond", 1, 1, 1003, 12, "ul1f82r4df82ur4f82r5df72");
        met("on one line upright, apart", 0, 0, -1, 4, "l1f2uf2l2df1");
        met("on one line upright, end at end", 1, 0, 2, 4, "l1f2uf1l2df1");
        met("on one line aslant, apart", 0, 0, -1, 12, "l1f2uf2l6df1");
        met("on one line aslant, end at end", 1, 0, 2, 12, "l1f2uf1l6df1");
        met("on one line aslant, overlapping", 1, 0, 2, 12, "l1f2uf1l6df2");
        met("on another line aslant, apart", 0, 0, -1, 8, "l3f2uf2l4df1");
        met("on another line aslant, end at end", 1, 0, 2, 8, "l3f2uf1l4df1");
        // One starts on the axis at 4 times the root of 3, a little less than 7.
        met("on one line, not quite overlapping", 0, 0, -1, 12, "f6ul6f6l7f4r2f4l1df1");
        met("on one line, just overlapping", 1, 0, 4, 12, "f7ul6f7l7f4r2f4l1df1");
        // And here at 5 times the root of 2, a little more than 7.
        met("on a line, not quite overlapping", 0, 0, -1, 8, "f7ul4f7l5f5r2f5l1df1");
        met("on a line, just overlapping", 1, 0, 4, 8, "f8ul4f8l5f5r2f5l1df1");
        Check.same("crossings alone", 1, () -> Check.after(4, "f2l1f1l1f1l1f2").crossings());
        Check.same("the first alone", 3, () -> Check.after(4, "f2l1f1l1f1l1f2").firstMeeting());
    }

    private static void promise15PairsThatDoNotCount() {
        about(15, "Pairs of segments with consecutive numbers do not count, and neither does the pair of the first "
                + "and the last segment of a closed track.");
        met("consecutive, on one another", 0, 0, -1, 4, "f3l2f2");
        met("consecutive, closed", 0, 0, -1, 4, "f1l2f1");
        met("the next but one", 1, 0, 2, 4, "f1f1l2f1");
        met("the next but one, first and last of a closed track", 0, 0, -1, 4, "f1f1l2f2");
        met("first and last of an open track", 1, 0, 3, 4, "f3l1f1l1f1l1f1");
        met("first and last of a closed track", 0, 0, -1, 4, "4(f2l1)");
        met("a closed track that is not smooth", 0, 0, -1, 4, "f2l1f2l1f2l1f2");
        met("a closed track and a step more", 2, 0, 3, 4, "4(f2l1)f1");
        met("four on one another, closed", 2, 0, 2, 4, "f1l2f1l2f1l2f1");
        met("five on one another, open", 6, 0, 2, 4, "f1l2f1l2f1l2f1l2f1");
        // There and back, then a square: its last side meets the second segment and the square's first side.
        met("the last of a closed track and others", 3, 0, 2, 4, "f1l2f1l00024(f2l1)");
    }

    private static void promise15DrawnOnes() {
        about(15, "Returns the number of pairs of drawn segments that meet.");
        met("all are drawn", 1, 1, 3, 4, "f2l1f1l1f1l1f2");
        met("only the two are drawn", 1, 1, 3, 4, "f2ul1f1l1f1l1df2");
        met("the first is not drawn", 0, 0, -1, 4, "uf2dl1f1l1f1l1f2");
        met("the second is not drawn", 0, 0, -1, 4, "f2l1f1l1f1l1uf2");
        met("none is drawn", 0, 0, -1, 4, "u8(f2l1)");
        // All 150 segments lie on one another: all pairs but the 149 of neighbours and that of the ends.
        met("as many pairs as there can be", 150 * 149 / 2 - 150, 0, 2, 4, "75(f9l2f9l2)");
        met("none of 300", 0, 0, -1, 4, "300(f1)");
        eachRunAnew();
    }

    private static void eachRunAnew() {
        ExactTurtle x = new ExactTurtle();
        for (int i = 0; i < 3; i++) {
            sameInTurn(x, "f2l1f1l1f1l1f2", 1, 1);
            sameInTurn(x, "75(f9l2f9l2)", 150 * 149 / 2 - 150, 0);
            sameInTurn(x, "f3l1f1l1f1l1f2r1f1r1f2", 2, 2);
        }
    }

    private static void sameInTurn(ExactTurtle x, String text, int meetings, int crossings) {
        Check.runRight(x, text);
        Check.same("in turn, meetings of " + text, meetings, () -> x.meetings());
        Check.same("in turn, crossings of " + text, crossings, () -> x.crossings());
    }

    private static void promise16ExactlyOneCommonPoint() {
        about(16, "Returns the number of pairs of drawn segments that cross: they have exactly one common point, and "
                + "it is an end point of neither.");
        met("in the middle of both", 1, 1, 3, 4, "f2l1f1l1f1l1f2");
        met("an end of the second", 1, 0, 3, 4, "f2l1f1l1f1l1f1");
        met("a start of the second", 1, 0, 2, 4, "f2ul2f1r1df1");
        met("an end of the first", 1, 0, 2, 4, "l1f2ur1f1l2df2");
        met("a start of the first", 1, 0, 3, 4, "f2ul2f2r1f1l2df2");
        met("ends of both", 1, 0, 4, 4, "f1uf1l1f1l1f1l1df1");
        met("many common points", 1, 0, 2, 4, "f2uf1l2df2");
        met("no common point", 0, 0, -1, 4, "f2ur1f1r1df2");
        // The last one goes through the point between two others, which is an end of both.
        met("through a corner", 2, 0, 4, 4, "f1f1l1f1l1f1l1f2");
        met("the star of 8", 16, 16, 2, 8, "8(f9l3)");
        met("the star of 12", 48, 48, 2, 12, "12(f9l5)");
    }

    private static void promise16PairsThatDoNotCount() {
        about(16, "The pairs that do not count for meetings do not count here, either.");
        met("not drawn", 0, 0, -1, 4, "f2l1f1l1f1l1uf2");
        met("the first not drawn", 0, 0, -1, 4, "uf2dl1f1l1f1l1f2");
        met("consecutive", 0, 0, -1, 12, "f9l5f9");
        met("first and last of a closed track that crosses itself", 1, 1, 3, 4, "f2l1f1l1f1l1f2r1f1r1f1");
        met("first and last of an open track", 1, 1, 3, 4, "f2l1f1l1f1l1f2");
    }

    private static void promise17InAscendingOrder() {
        about(17, "Returns the first pair of segments that counts for meetings, in ascending order of the lower and "
                + "then of the higher number.");
        met("the lower number before the higher one", 2, 1, 6, 4, "f1f2l1f1l1f1l1f2r1f2r1f2");
        met("then the higher number", 2, 2, 3, 4, "f3l1f1l1f1l1f2r1f1r1f2");
        met("the higher one alone", 1, 1, 5, 4, "f3l1f1l1f1l1uf2r1f1r1df2");
        met("not the consecutive ones", 1, 0, 2, 4, "f1f1l2f1");
    }

    private static void promise17Numbers() {
        about(17, "Returns 1000 times the lower number plus the higher one.");
        met("the lowest", 1, 0, 2, 4, "f1f1l2f1");
        met("one later", 1, 0, 1003, 4, "uf1df1f1l2f1");
        met("a low one and a high one", 1, 0, 295, 4, "f1u293(f1)l2f293df2");
        met("the highest", 1, 0, 296298, 4, "298(f1)l2f1");
    }

    private static void promise17Throws() {
        about(17, "Throws `NoSuchElementException` if there is no such pair");
        refuses(ExactTurtle::new, NONE, "at first", x -> x.firstMeeting());
        String[] texts = {"", "f1", "f1l2f1", "4(f2l1)", "u8(f2l1)", "f2l1f1l1f1l1uf2", "f2l1f2l1f1l1f1", "300(f1)"};
        for (String text : texts) {
            refuses(() -> filled(4, text), NONE, "after " + text, x -> x.firstMeeting());
        }
        Check.same("after an earlier run with one", 3, () -> {
            ExactTurtle x = filled(4, "f2l1f1l1f1l1f2");
            runAnyhow(x, "f1C");
            return x.firstMeeting();
        });
        refuses(() -> {
            ExactTurtle x = filled(4, "f2l1f1l1f1l1f2");
            x.firstMeeting();
            Check.run(x, "f1");
            return x;
        }, NONE, "after a run without one", x -> x.firstMeeting());
    }

    /** The lowest x, the greatest x, the lowest y and the greatest y, each as an integer and a factor. */
    private static void sameExtremes(int d, String text, int... due) {
        for (int i = 0; i < 8; i++) {
            int n = i;
            Check.same("side " + n / 2 + ", part " + n % 2 + " by " + d + " of " + text, due[n],
                    () -> Check.after(d, text).extreme(n / 2, n % 2));
        }
    }

    private static void promise18Sides() {
        about(18, "`side`: 0 for the lowest x, 1 for the greatest x, 2 for the lowest y, 3 for the greatest y "
                + "coordinate");
        sameExtremes(4, "", 0, 0, 0, 0, 0, 0, 0, 0);
        sameExtremes(4, "f1", 0, 0, 2, 0, 0, 0, 0, 0);
        sameExtremes(4, "l2f1", -2, 0, 0, 0, 0, 0, 0, 0);
        sameExtremes(4, "l1f1", 0, 0, 0, 0, 0, 0, 2, 0);
        sameExtremes(4, "r1f1", 0, 0, 0, 0, -2, 0, 0, 0);
        sameExtremes(4, "f3l1f2l1f4l1f5", -2, 0, 6, 0, -6, 0, 4, 0);
        sameExtremes(4, "uf3l1f2l1f4l1f5", -2, 0, 6, 0, -6, 0, 4, 0);
        sameExtremes(4, "f2500l2f5000", -5000, 0, 5000, 0, 0, 0, 0, 0);
        sameExtremes(4, "l1f2500l2f5000", 0, 0, 0, 0, -5000, 0, 5000, 0);
    }

    private static void promise18Parts() {
        about(18, "`part`: 0 for the integer, 1 for the factor of sqrt(r)");
        sameExtremes(12, "l1f3", 0, 0, 0, 3, 0, 0, 3, 0);
        sameExtremes(12, "l2f3", 0, 0, 3, 0, 0, 0, 0, 3);
        sameExtremes(12, "l7f3", 0, -3, 0, 0, -3, 0, 0, 0);
        sameExtremes(8, "8(f1l1)", 0, -1, 2, 1, 0, 0, 2, 2);
        sameExtremes(6, "6(f1l1)", -1, 0, 3, 0, 0, 0, 0, 2);
        // 194 is a little more than 112 times the root of 3; 198 is a little more than 140 times that of 2.
        sameExtremes(12, "f97l6f97l7f112", 0, 0, 194, 0, 0, 0, 112, 0);
        sameExtremes(12, "f97l6f97l7f113", 0, 0, 0, 113, 0, 0, 113, 0);
        sameExtremes(8, "f99l4f99l5f140", 0, 0, 198, 0, 0, 0, 0, 140);
        sameExtremes(8, "f99l4f99l5f141", 0, 0, 0, 141, 0, 0, 0, 141);
        sameExtremes(12, "l2f1l6f1l5f1", 0, 0, 0, 1, 0, 0, 0, 1);
        sameExtremes(12, "l1f1l6f1l7f1", 0, 0, 0, 1, 0, 0, 0, 1);
        sameExtremes(12, "f1l6f1l7f1", 0, 0, 2, 0, 0, 0, 1, 0);
        sameExtremes(12, "l6f97l6f97l7f112", -194, 0, 0, 0, -112, 0, 0, 0);
        sameExtremes(12, "l6f97l6f97l7f113", 0, -113, 0, 0, -113, 0, 0, 0);
        sameExtremes(12, "l6f97l6f97l1f112l6f112", -194, 0, 0, 112, 0, 0, 112, 0);
    }

    private static void promise18Throws() {
        about(18, "Throws `IllegalArgumentException` if an argument is out of range");
        for (int wrong : outside(0, 3)) {
            refuses(ARGUMENT, "side " + wrong, x -> x.extreme(wrong, 0));
            refuses(ARGUMENT, "side " + wrong + ", part 1", x -> x.extreme(wrong, 1));
            refuses(ExactTurtle::new, ARGUMENT, "side " + wrong + " at first", x -> x.extreme(wrong, 0));
        }
        for (int wrong : outside(0, 1)) {
            for (int side = 0; side < 4; side++) {
                int s = side;
                refuses(ARGUMENT, "side " + s + ", part " + wrong, x -> x.extreme(s, wrong));
            }
            refuses(ARGUMENT, "both " + wrong, x -> x.extreme(wrong - 2, wrong));
        }
        for (int i = 0; i < 8; i++) {
            int n = i;
            Check.same("side " + n / 2 + ", part " + n % 2, 0, () -> new ExactTurtle().extreme(n / 2, n % 2));
        }
    }
}

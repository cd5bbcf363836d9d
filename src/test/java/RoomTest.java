import java.lang.management.ManagementFactory;

/** Bounds what an object and its 512 calls make, and lets the dearest calls come to an end. */
public final class RoomTest {
    private static final com.sun.management.ThreadMXBean ROOM =
            (com.sun.management.ThreadMXBean) ManagementFactory.getThreadMXBean();

    public static void main(String[] args) {
        warmUp();
        Check.same("room of a new object", true, () -> roomOfNew() < 60000);
        Check.same("room of 512 definitions", true, () -> roomOfDefinitions() < 150000);
        Check.same("room of 512 analyses", true, () -> roomOfAnalyses() < 20000);
        Check.same("room of 256 runs", true, () -> roomOfRuns() < 400000);
        manyMeetings();
        manyCalls();
        manyRounds();
        Check.end();
    }

    private static long used() {
        return ROOM.getThreadAllocatedBytes(Thread.currentThread().getId());
    }

    private static void warmUp() {
        used();
        roomOfNew();
        roomOfDefinitions();
        roomOfAnalyses();
        roomOfRuns();
    }

    private static long roomOfNew() {
        long before = used();
        new ExactTurtle();
        return used() - before;
    }

    private static long roomOfDefinitions() {
        ExactTurtle x = new ExactTurtle();
        long before = used();
        for (int i = 0; i < 512; i++) {
            x.define('A');
        }
        return used() - before;
    }

    private static long roomOfAnalyses() {
        ExactTurtle x = Check.after(12, "12(f1l5)");
        long before = used();
        for (int i = 0; i < 51; i++) {
            x.meetings();
            x.crossings();
            x.symmetry();
            x.isMirrored();
            x.shortestWalk(8);
            x.shortestText();
            x.area(0);
            x.extreme(1, 1);
            x.closingRepeats();
            x.createTrace(300);
        }
        return used() - before;
    }

    private static long roomOfRuns() {
        ExactTurtle x = new ExactTurtle();
        long before = used();
        for (int i = 0; i < 256; i++) {
            x.feed('u');
            x.run();
        }
        return used() - before;
    }

    private static void manyMeetings() {
        ExactTurtle x = Check.after(4, "300(f1)");
        Check.same("no meetings on a line", 0, () -> x.meetings());
        Check.run(x, "75(f9l2f9l2)");
        // All 150 segments lie on one another: all pairs but the 149 of neighbours and that of the ends.
        Check.same("all pairs", 150 * 149 / 2 - 149 - 1, () -> x.meetings());
    }

    private static void manyCalls() {
        ExactTurtle x = new ExactTurtle();
        x.define('A');
        for (char name = 'B'; name <= 'H'; name++) {
            Check.define(x, name, ("" + (char) (name - 1)).repeat(100));
        }
        Check.same("100 to the seventh", 0, () -> Check.run(x, "2000(H)"));
        Check.same("counted", Integer.MAX_VALUE, () -> x.calls('A'));
        Check.same("the outer ones", 2000, () -> x.calls('H'));
        Check.same("the next ones", 200000, () -> x.calls('G'));
        Check.same("more calls than a long can tell", 1, () -> Check.run(x, "1000(" + "H".repeat(93) + ")u"));
        Check.same("are counted as the greatest int", Integer.MAX_VALUE, () -> x.calls('A'));
        Check.same("the outer ones of them", 93000, () -> x.calls('H'));
    }

    private static void manyRounds() {
        ExactTurtle x = new ExactTurtle();
        Check.define(x, 'A', "0(f1)".repeat(20));
        Check.define(x, 'B', "A".repeat(100));
        Check.same("rounds of calls", 300, () -> Check.run(x, "1700(" + "B".repeat(88) + ")300(u)"));
        Check.same("calls in rounds", 1700 * 8800, () -> x.calls('A'));
        Check.raises("great repetitions", IllegalStateException.class, () -> Check.run(x, "9999(9999(9999(9999(9999(9999(B))))))"));
    }
}

/** For each sentence of the document that names a boundary case, a test of its own, named by the sentence. */
public final class BoundaryTest {
    /** How the sentences begin that name no boundary, or that other tests have as a whole. */
    private static final String[] PLAIN = {
        "`",
        "All coordinates are exact numbers", "The class finds out", "The class is not thread-safe.",
        "Directions.", "Coordinates.", "Programs.", "Syntax errors.", "Procedures.", "Running.", "Tracks.", "Details.",
        "Examples.", "Each one begins with a new object", "A square:", "Directions of sixty degrees:",
        "A walk that crosses itself:", "An open walk:", "A definition and its use:", "A text that is wrong,",
        "The constants:", "The constructor and the methods follow",
        "Sets the number of directions.",
        "Returns a part of a point of the track.", "Returns the part.",
        "Returns the number of points of the track.",
        "Returns whether a segment of the track is drawn.",
        "Returns the direction at the end of the run.",
        "Returns the sum.",
        "Returns whether the track is closed.",
        "Returns the number of pairs.",
        "Returns an extreme coordinate of the points of the track",
        "Returns the number of corners of the track.",
        "Returns the order of the rotational symmetry of a smooth track.",
        "Returns the character.",
        "Returns the name of a procedure that was called in the run.", "Returns the name.",
        "Returns how often a procedure was called in the run.",
        "Returns an element of the trace.",
    };

    public static void main(String[] args) {
        LanguageBoundaries.all();
        RunBoundaries.all();
        TrackBoundaries.all();
        AnswerBoundaries.all();
        whatIsUnchangedCanBeSeen();
        noSentenceIsLeftOut();
        Check.end();
    }

    /** That a call leaves the state unchanged says something only if a change of any kind would be seen. */
    private static void whatIsUnchangedCanBeSeen() {
        Check.topic("what everything sees: ");
        Boundary.Act[] changes = {
            x -> x.setDirections(8), x -> x.feed('u'), x -> x.define('C'), x -> x.define('A'), x -> x.undefine('A'),
            x -> x.undefine('H'), x -> x.run(), x -> Check.run(x, "f1A"), x -> Check.run(x, "u"), x -> x.createTrace(5),
            x -> x.createTrace(6), x -> x.saveProcedures(), x -> x.restoreProcedures(),
        };
        for (int i = 0; i < changes.length; i++) {
            Boundary.Act change = changes[i];
            Check.same("change " + i, true, () -> {
                ExactTurtle x = Boundary.filledAndFed();
                change.on(x);
                return !Boundary.everything(x).equals(Boundary.everything(Boundary.filledAndFed()));
            });
        }
        Check.same("a new walk", true, () -> {
            ExactTurtle x = Boundary.filled(12, "l1");
            x.shortestWalk(8);
            return !Boundary.everything(x).equals(Boundary.everything(Boundary.filled(12, "l1")));
        });
        Check.same("no change", Boundary.everything(Boundary.filled()), () -> Boundary.everything(Boundary.filled()));
    }

    private static void noSentenceIsLeftOut() {
        Check.topic("a sentence without a test: ");
        for (String sentence : Document.unnamed()) {
            Check.same(sentence, true, () -> isPlain(sentence));
        }
    }

    private static boolean isPlain(String sentence) {
        for (String start : PLAIN) {
            if (sentence.startsWith(start)) {
                return true;
            }
        }
        return false;
    }
}

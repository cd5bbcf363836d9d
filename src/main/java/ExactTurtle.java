import java.util.Arrays;
import java.util.NoSuchElementException;

/**
 * An interpreter for a small turtle graphics language with exact coordinates,
 * which analyses the tracks that programs draw.
 */
public final class ExactTurtle {
    public static final int NO_TRACE = -11;
    public static final int NO_INDEX = -13;
    public static final int NEGATIVE_SIZE = -14;

    private static final int SYNTAX_ERROR = -100;
    private static final int MAX_LETTERS = 100;
    private static final int MAX_DIGITS = 4;
    private static final int MAX_OPEN = 6;
    private static final int MAX_BASICS = 300;
    private static final int MAX_ACTIVE = 8;
    private static final int MAX_ROUNDS = 2000;
    private static final int MAX_PART = 5000;
    private static final int MAX_WALK = 8;
    private static final int MAX_MEASURED = 40;
    private static final int MAX_TRACE = 300;
    private static final int NAMES = 8;
    private static final int PARTS = 4;
    private static final int FIRST_DIRECTIONS = 4;
    private static final int GREATEST_INT = 2147483647;

    // Far above what the limits on basic commands and rounds let one program do.
    private static final int MANY_STEPS = 1000000;

    // Twice the cosines of the multiples of 30 and of 45 degrees: integers and factors of the root.
    private static final int[] COSINES_12 = {2, 0, 1, 0, -1, 0, -2, 0, -1, 0, 1, 0};
    private static final int[] ROOTS_12 = {0, 1, 0, 0, 0, -1, 0, -1, 0, 0, 0, 1};
    private static final int[] COSINES_8 = {2, 0, 0, 0, -2, 0, 0, 0};
    private static final int[] ROOTS_8 = {0, 1, 0, -1, 0, -1, 0, 1};

    private final Input input = new Input();
    private final Procedures procedures = new Procedures();
    private final Runner runner = new Runner();
    private final Sides sides = new Sides();
    private final WalkSearch walkSearch = new WalkSearch();
    private final TextMeasure textMeasure = new TextMeasure();
    private final char[] output = new char[MAX_WALK];
    private final int[] trace = new int[MAX_TRACE];
    private Journey journey = new Journey();
    private Journey spare = new Journey();
    private int outputSize;
    private int traceSize = NO_TRACE;

    public ExactTurtle() {
    }

    public int setDirections(int d) throws IllegalArgumentException {
        if (d != 4 && d != 6 && d != 8 && d != 12) {
            throw new IllegalArgumentException("directions");
        }
        int previous = journey.track.directions;
        journey.restart(d);
        return previous;
    }

    public int feed(char letter) throws IllegalStateException {
        if (!input.add(letter)) {
            throw new IllegalStateException("the buffer is full");
        }
        return input.length;
    }

    public int define(char name) throws IllegalArgumentException {
        int index = nameIndex(name);
        if (index < 0) {
            throw new IllegalArgumentException("name");
        }
        Program program = input.takeProgram();
        if (program == null) {
            return input.errorCode();
        }
        procedures.put(index, program);
        return program.commands;
    }

    public boolean undefine(char name) throws IllegalArgumentException {
        int index = nameIndex(name);
        if (index < 0) {
            throw new IllegalArgumentException("name");
        }
        boolean wasDefined = procedures.get(index) != null;
        procedures.put(index, null);
        return wasDefined;
    }

    public int run() throws NoSuchElementException, IllegalStateException, ArithmeticException {
        Program program = input.takeProgram();
        if (program == null) {
            return input.errorCode();
        }
        // A run that fails leaves the journey before it alone, so it draws into the spare one.
        spare.restart(journey.track.directions);
        runner.perform(program, procedures, spare);
        Journey old = journey;
        journey = spare;
        spare = old;
        fillTrace();
        return journey.basics;
    }

    public int point(int i, int part) throws IndexOutOfBoundsException {
        if (i < 0 || i > journey.track.segments || part < 0 || part >= PARTS) {
            throw new IndexOutOfBoundsException("point or part");
        }
        return journey.track.partAt(i, part);
    }

    public int points() {
        return journey.track.segments + 1;
    }

    public boolean isDrawn(int i) throws IndexOutOfBoundsException {
        if (i < 0 || i >= journey.track.segments) {
            throw new IndexOutOfBoundsException("segment");
        }
        return journey.track.drawnAt(i);
    }

    public int direction() {
        return journey.heading();
    }

    public int turning() {
        return journey.turned;
    }

    public boolean isClosed() {
        return journey.track.endsAtStart();
    }

    public int closingRepeats() throws NoSuchElementException {
        int heading = journey.heading();
        if (heading == 0) {
            if (!journey.track.endsAtStart()) {
                throw new NoSuchElementException("every execution leads further away");
            }
            return 1;
        }
        // Copies of a move, turned evenly all round, add up to nothing, so the turns alone decide.
        int repeats = 1;
        while (repeats < journey.track.directions && wrap(repeats * heading, journey.track.directions) != 0) {
            repeats++;
        }
        return repeats;
    }

    public long area(int part) throws IllegalArgumentException, IllegalStateException {
        if (part != 0 && part != 1) {
            throw new IllegalArgumentException("part");
        }
        if (!journey.track.endsAtStart()) {
            throw new IllegalStateException("the track is not closed");
        }
        return journey.track.enclosed(part == 1);
    }

    public int meetings() {
        journey.track.comparePairs();
        return journey.track.meetingPairs;
    }

    public int crossings() {
        journey.track.comparePairs();
        return journey.track.crossingPairs;
    }

    public int firstMeeting() throws NoSuchElementException {
        journey.track.comparePairs();
        if (journey.track.meetingPairs == 0) {
            throw new NoSuchElementException("no segments meet");
        }
        return journey.track.firstPair;
    }

    public int extreme(int side, int part) throws IllegalArgumentException {
        if (side < 0 || side > 3 || (part != 0 && part != 1)) {
            throw new IllegalArgumentException("side or part");
        }
        int axis = side < 2 ? 0 : 2;
        boolean greatest = side == 1 || side == 3;
        int point = journey.track.outermost(axis, greatest);
        return journey.track.partAt(point, axis + part);
    }

    public int corners() throws IllegalStateException {
        if (!journey.isSmooth()) {
            throw new IllegalStateException("the track is not smooth");
        }
        sides.gather(journey.track);
        return sides.count;
    }

    public int symmetry() throws IllegalStateException {
        if (!gatherCorners()) {
            throw new IllegalStateException("the track is not smooth or has no corner");
        }
        return sides.rotations();
    }

    public boolean isMirrored() throws IllegalStateException {
        if (!gatherCorners()) {
            throw new IllegalStateException("the track is not smooth or has no corner");
        }
        return sides.hasMirror();
    }

    public int shortestWalk(int limit) throws IllegalArgumentException, NoSuchElementException {
        if (limit < 0 || limit > MAX_WALK) {
            throw new IllegalArgumentException("limit");
        }
        int length = walkSearch.find(journey.track, journey.heading(), limit);
        if (length < 0) {
            throw new NoSuchElementException("no walk within the limit");
        }
        for (int i = 0; i < length && i < MAX_WALK; i++) {
            output[i] = walkSearch.letters[i];
        }
        outputSize = length;
        return length;
    }

    public char outputAt(int i) throws IndexOutOfBoundsException {
        if (i < 0 || i >= outputSize || i >= output.length) {
            throw new IndexOutOfBoundsException("place");
        }
        return output[i];
    }

    public int shortestText() throws IllegalStateException {
        if (journey.basics > MAX_MEASURED) {
            throw new IllegalStateException("too many basic commands");
        }
        return textMeasure.measure(journey);
    }

    public char called(int i) throws IndexOutOfBoundsException {
        if (i < 0 || i >= journey.namesCalled || i >= NAMES) {
            throw new IndexOutOfBoundsException("index");
        }
        return (char) ('A' + journey.callOrder[i]);
    }

    public int calls(char name) {
        int index = nameIndex(name);
        if (index < 0) {
            return 0;
        }
        return journey.callsOf(index);
    }

    public int createTrace(int size) throws IllegalArgumentException {
        if (size > MAX_TRACE) {
            throw new IllegalArgumentException("size");
        }
        if (size < 0) {
            return NEGATIVE_SIZE;
        }
        Arrays.fill(trace, -1);
        traceSize = size;
        return size;
    }

    public int traceAt(int i) {
        if (traceSize == NO_TRACE) {
            return NO_TRACE;
        }
        if (i < 0 || i >= traceSize || i >= trace.length) {
            return NO_INDEX;
        }
        return trace[i];
    }

    public int saveProcedures() {
        procedures.save();
        return procedures.definedOnes();
    }

    public int restoreProcedures() throws IllegalStateException {
        if (!procedures.restore()) {
            throw new IllegalStateException("nothing was saved");
        }
        return procedures.definedOnes();
    }

    private void fillTrace() {
        int turned = 0;
        for (int i = 0; i < traceSize && i < journey.basics && i < trace.length; i++) {
            turned += journey.turnAt(i);
            trace[i] = wrap(turned, journey.track.directions);
        }
    }

    private boolean gatherCorners() {
        if (!journey.isSmooth()) {
            return false;
        }
        sides.gather(journey.track);
        return sides.count > 0;
    }

    /** The place of a procedure's name among the eight, or -1. */
    private static int nameIndex(int name) {
        return name >= 'A' && name <= 'H' ? name - 'A' : -1;
    }

    /** The remainder that is not negative. */
    private static int wrap(int value, int size) {
        return size > 0 ? Math.floorMod(value, size) : 0;
    }

    /** What a move of length 1 adds to a part of a point. */
    private static int movePart(int directions, int heading, int part) {
        boolean ofRoot = part == 1 || part == 3;
        int[] table = ofRoot ? ROOTS_12 : COSINES_12;
        if (directions == 8) {
            table = ofRoot ? ROOTS_8 : COSINES_8;
        }
        int perDirection = directions == 4 ? 3 : directions == 6 ? 2 : 1;
        // The sine of an angle is the cosine of the angle a quarter of the circle before it.
        int place = heading * perDirection - (part >= 2 ? table.length / 4 : 0);
        int index = place < 0 ? place + table.length : place;
        return index >= 0 && index < table.length ? table[index] : 0;
    }

    /** The sign of integer + factor * sqrt(root), for a root that is no square. */
    private static int signOf(long integer, long factor, long root) {
        if (integer == 0 && factor == 0) {
            return 0;
        }
        if (integer >= 0 && factor >= 0) {
            return 1;
        }
        if (integer <= 0 && factor <= 0) {
            return -1;
        }
        boolean integerWeighsMore = integer * integer > root * factor * factor;
        return integerWeighsMore == (integer > 0) ? 1 : -1;
    }

    /** How many digits a number from 0 to 9999 is written with. */
    private static int digitsOf(int number) {
        if (number < 10) {
            return 1;
        }
        if (number < 100) {
            return 2;
        }
        return number < 1000 ? 3 : 4;
    }

    /** A program that was parsed, as a row of commands in which brackets know their partners. */
    private static final class Program {
        private final int[] kinds;
        private final int[] numbers;
        private final int[] partners;
        private final int size;
        private final int commands;

        Program(int[] kinds, int[] numbers, int[] partners, int size, int commands) {
            this.kinds = Arrays.copyOf(kinds, Math.max(size, 0));
            this.numbers = Arrays.copyOf(numbers, Math.max(size, 0));
            this.partners = Arrays.copyOf(partners, Math.max(size, 0));
            this.size = Math.max(size, 0);
            this.commands = commands;
        }

        int kindAt(int i) {
            return i >= 0 && i < kinds.length ? kinds[i] : 0;
        }

        int numberAt(int i) {
            return i >= 0 && i < numbers.length ? numbers[i] : 0;
        }

        int partnerAt(int i) {
            return i >= 0 && i < partners.length ? partners[i] : size;
        }
    }

    /** The input buffer and the parser that reads it. */
    private static final class Input {
        private final char[] letters = new char[MAX_LETTERS];
        private final int[] kinds = new int[MAX_LETTERS];
        private final int[] numbers = new int[MAX_LETTERS];
        private final int[] partners = new int[MAX_LETTERS];
        private final int[] opened = new int[MAX_OPEN];
        private int length;
        private int at;
        private int size;
        private int open;
        private int commands;
        private boolean wrong;

        boolean add(char letter) {
            if (length < 0 || length >= letters.length) {
                return false;
            }
            letters[length] = letter;
            length++;
            return true;
        }

        /** Empties the buffer and answers its program, or null after a syntax error. */
        Program takeProgram() {
            at = 0;
            size = 0;
            open = 0;
            commands = 0;
            wrong = false;
            for (int taken = 0; taken < length && at < length && !wrong; taken++) {
                takeCommand();
            }
            length = 0;
            if (wrong || open > 0) {
                return null;
            }
            return new Program(kinds, numbers, partners, size, commands);
        }

        /** What is answered after a syntax error: the parser has stopped where the error is. */
        int errorCode() {
            return SYNTAX_ERROR - at;
        }

        private void takeCommand() {
            char letter = letterAt(at);
            if (letter == 'u' || letter == 'd' || nameIndex(letter) >= 0) {
                at++;
                commands++;
                write(letter, 0);
            } else if (letter == 'f' || letter == 'l' || letter == 'r') {
                at++;
                takeNumbered(letter);
            } else if (isDigit(letter)) {
                openRepetition();
            } else if (letter == ')' && open > 0) {
                closeRepetition();
            } else {
                wrong = true;
            }
        }

        private void takeNumbered(char letter) {
            if (!isDigit(letterAt(at))) {
                wrong = true;
                return;
            }
            commands++;
            write(letter, takeNumber());
        }

        private void openRepetition() {
            int number = takeNumber();
            if (letterAt(at) != '(' || open < 0 || open >= opened.length) {
                wrong = true;
                return;
            }
            opened[open] = size;
            open++;
            at++;
            commands++;
            write('(', number);
        }

        private void closeRepetition() {
            if (open <= 0 || open > opened.length) {
                wrong = true;
                return;
            }
            open--;
            int start = opened[open];
            if (start >= 0 && start < partners.length && size < partners.length) {
                partners[start] = size;
                partners[size] = start;
            }
            at++;
            write(')', 0);
        }

        private int takeNumber() {
            int number = 0;
            for (int digits = 0; digits < MAX_DIGITS && isDigit(letterAt(at)); digits++) {
                number = 10 * number + (letterAt(at) - '0');
                at++;
            }
            return number;
        }

        private void write(int kind, int number) {
            if (size < 0 || size >= MAX_LETTERS) {
                wrong = true;
                return;
            }
            kinds[size] = kind;
            numbers[size] = number;
            size++;
        }

        private char letterAt(int i) {
            return i >= 0 && i < length && i < letters.length ? letters[i] : (char) 0;
        }

        private static boolean isDigit(char letter) {
            return letter >= '0' && letter <= '9';
        }
    }

    /** The eight procedures, and what was saved of them. */
    private static final class Procedures {
        private final Program[] current = new Program[NAMES];
        private final Program[] saved = new Program[NAMES];
        private boolean hasSaved;

        Program get(int index) {
            return index >= 0 && index < NAMES ? current[index] : null;
        }

        void put(int index, Program program) {
            if (index >= 0 && index < NAMES) {
                current[index] = program;
            }
        }

        int definedOnes() {
            int count = 0;
            for (int i = 0; i < NAMES; i++) {
                if (current[i] != null) {
                    count++;
                }
            }
            return count;
        }

        void save() {
            for (int i = 0; i < NAMES; i++) {
                saved[i] = current[i];
            }
            hasSaved = true;
        }

        boolean restore() {
            if (!hasSaved) {
                return false;
            }
            for (int i = 0; i < NAMES; i++) {
                current[i] = saved[i];
            }
            return true;
        }
    }

    /** Executes programs. */
    private static final class Runner {
        private final int[] roundsLeft = new int[(MAX_ACTIVE + 1) * MAX_OPEN];
        // A call without basic commands and rounds is only counted if it came to its end before: nothing
        // else would limit how many such calls a short text asks for. For each procedure stands here the
        // greatest number of active calls within which it did so, or -1: within more, it may be too deep.
        private final int[] idleWithin = new int[NAMES];
        private final int[] idleCounts = new int[NAMES * NAMES];
        private final int[] countsBefore = new int[MAX_ACTIVE * NAMES];
        private int rounds;

        void perform(Program program, Procedures procedures, Journey journey) {
            rounds = 0;
            Arrays.fill(idleWithin, -1);
            execute(program, procedures, journey, 0);
        }

        /** Executes a program within so many active calls. */
        private void execute(Program program, Procedures procedures, Journey journey, int active) {
            int open = 0;
            int at = 0;
            for (int steps = 0; steps < MANY_STEPS && at < program.size; steps++) {
                int kind = program.kindAt(at);
                if (kind == '(') {
                    if (program.numberAt(at) > 0) {
                        beginRound();
                        setRoundsLeft(active, open, program.numberAt(at));
                        open++;
                    } else {
                        at = program.partnerAt(at);
                    }
                } else if (kind == ')') {
                    int left = getRoundsLeft(active, open - 1) - 1;
                    if (left > 0) {
                        beginRound();
                        setRoundsLeft(active, open - 1, left);
                        at = program.partnerAt(at);
                    } else {
                        open--;
                    }
                } else if (nameIndex(kind) >= 0) {
                    performCall(nameIndex(kind), procedures, journey, active);
                } else {
                    doBasic(kind, program.numberAt(at), journey);
                }
                at++;
            }
        }

        private void performCall(int index, Procedures procedures, Journey journey, int active) {
            Program program = procedures.get(index);
            if (program == null) {
                throw new NoSuchElementException("the procedure is undefined");
            }
            if (active < 0 || active >= MAX_ACTIVE) {
                throw new IllegalStateException("too many active calls");
            }
            // The calls in it were not too many within as many active calls as now, or within more.
            if (index >= 0 && index < NAMES && active <= idleWithin[index]) {
                addIdleCounts(index, journey);
                return;
            }
            keepCounts(active, journey);
            journey.noteCall(index);
            int doneBefore = rounds + journey.basics;
            execute(program, procedures, journey, active + 1);
            if (rounds + journey.basics == doneBefore) {
                rememberIdle(index, active, journey);
            }
        }

        private void beginRound() {
            if (rounds >= MAX_ROUNDS) {
                throw new IllegalStateException("too many rounds");
            }
            rounds++;
        }

        private void doBasic(int letter, int number, Journey journey) {
            if (journey.basics >= MAX_BASICS) {
                throw new IllegalStateException("too many basic commands");
            }
            if (!journey.follow(letter, number)) {
                throw new ArithmeticException("a part leaves its range");
            }
        }

        private void setRoundsLeft(int active, int open, int left) {
            int index = active * MAX_OPEN + open;
            if (index >= 0 && index < roundsLeft.length) {
                roundsLeft[index] = left;
            }
        }

        private int getRoundsLeft(int active, int open) {
            int index = active * MAX_OPEN + open;
            return index >= 0 && index < roundsLeft.length ? roundsLeft[index] : 0;
        }

        private void keepCounts(int active, Journey journey) {
            if (active >= 0 && active < MAX_ACTIVE) {
                System.arraycopy(journey.callCounts, 0, countsBefore, active * NAMES, NAMES);
            }
        }

        private void rememberIdle(int index, int active, Journey journey) {
            if (index < 0 || index >= NAMES || active < 0 || active >= MAX_ACTIVE) {
                return;
            }
            idleWithin[index] = active;
            for (int i = 0; i < NAMES; i++) {
                idleCounts[index * NAMES + i] = journey.callCounts[i] - countsBefore[active * NAMES + i];
            }
        }

        private void addIdleCounts(int index, Journey journey) {
            if (index < 0 || index >= NAMES) {
                return;
            }
            for (int i = 0; i < NAMES; i++) {
                journey.addCalls(i, idleCounts[index * NAMES + i]);
            }
        }
    }

    /** All that belongs to one run: its basic commands, its calls and its track. */
    private static final class Journey {
        private final Track track = new Track();
        private final int[] letters = new int[MAX_BASICS];
        private final int[] numbers = new int[MAX_BASICS];
        private final int[] callCounts = new int[NAMES];
        private final int[] callOrder = new int[NAMES];
        private int basics;
        private int namesCalled;
        private int turned;
        private boolean penUp;

        void restart(int directions) {
            track.restart(directions);
            Arrays.fill(callCounts, 0);
            basics = 0;
            namesCalled = 0;
            turned = 0;
            penUp = false;
        }

        /** Executes a basic command; false if the turtle would leave the range. */
        boolean follow(int letter, int number) {
            if (basics < 0 || basics >= MAX_BASICS) {
                return false;
            }
            letters[basics] = letter;
            numbers[basics] = number;
            basics++;
            if (letter == 'u') {
                penUp = true;
            } else if (letter == 'd') {
                penUp = false;
            } else if (letter == 'f' && number > 0) {
                return track.append(heading(), number, !penUp);
            }
            turned += turnAt(basics - 1);
            return true;
        }

        void noteCall(int index) {
            if (index < 0 || index >= NAMES) {
                return;
            }
            if (callCounts[index] == 0 && namesCalled >= 0 && namesCalled < NAMES) {
                callOrder[namesCalled] = index;
                namesCalled++;
            }
            addCalls(index, 1);
        }

        /** Counts calls: those that do nothing have no limit, so the number stops at the greatest int. */
        void addCalls(int index, int number) {
            if (index >= 0 && index < NAMES) {
                callCounts[index] = (int) Math.min((long) callCounts[index] + number, (long) GREATEST_INT);
            }
        }

        int callsOf(int index) {
            return index >= 0 && index < NAMES ? callCounts[index] : 0;
        }

        int heading() {
            return wrap(turned, track.directions);
        }

        boolean isSmooth() {
            return track.endsAtStart() && heading() == 0;
        }

        /** How far a basic command turns the turtle to the left. */
        int turnAt(int i) {
            if (i < 0 || i >= MAX_BASICS) {
                return 0;
            }
            return letters[i] == 'l' ? numbers[i] : letters[i] == 'r' ? -numbers[i] : 0;
        }

        /** How many characters a basic command is written with. */
        int lengthAt(int i) {
            if (i < 0 || i >= MAX_BASICS) {
                return 0;
            }
            return letters[i] == 'u' || letters[i] == 'd' ? 1 : 1 + digitsOf(numbers[i]);
        }

        boolean isSame(int i, int j) {
            if (i < 0 || i >= MAX_BASICS || j < 0 || j >= MAX_BASICS) {
                return false;
            }
            return letters[i] == letters[j] && numbers[i] == numbers[j];
        }
    }

    /** The points and segments of a run. */
    private static final class Track {
        private final int[] parts = new int[PARTS * (MAX_BASICS + 1)];
        private final boolean[] drawn = new boolean[MAX_BASICS];
        private final int[] headings = new int[MAX_BASICS];
        private final int[] lengths = new int[MAX_BASICS];
        private int directions = FIRST_DIRECTIONS;
        private int segments;
        private boolean compared;
        private int meetingPairs;
        private int crossingPairs;
        private int firstPair;

        void restart(int d) {
            directions = d;
            segments = 0;
            compared = false;
        }

        /** Adds a segment; false if its end would leave the range. */
        boolean append(int heading, int length, boolean isPenDown) {
            if (segments < 0 || segments >= MAX_BASICS) {
                return false;
            }
            for (int part = 0; part < PARTS; part++) {
                int value = partAt(segments, part) + length * movePart(directions, heading, part);
                if (value < -MAX_PART || value > MAX_PART) {
                    return false;
                }
                parts[PARTS * (segments + 1) + part] = value;
            }
            headings[segments] = heading;
            lengths[segments] = length;
            drawn[segments] = isPenDown;
            segments++;
            return true;
        }

        int partAt(int point, int part) {
            if (point < 0 || point > MAX_BASICS || part < 0 || part >= PARTS) {
                return 0;
            }
            return parts[PARTS * point + part];
        }

        boolean drawnAt(int segment) {
            return segment >= 0 && segment < MAX_BASICS && drawn[segment];
        }

        int headingAt(int segment) {
            return segment >= 0 && segment < MAX_BASICS ? headings[segment] : 0;
        }

        int lengthAt(int segment) {
            return segment >= 0 && segment < MAX_BASICS ? lengths[segment] : 0;
        }

        boolean endsAtStart() {
            for (int part = 0; part < PARTS; part++) {
                if (partAt(segments, part) != 0) {
                    return false;
                }
            }
            return true;
        }

        long enclosed(boolean ofRoot) {
            long sum = 0;
            for (int i = 0; i < segments; i++) {
                // The start point is 0, 0, so the way to a point from there is the point itself.
                sum += ofRoot ? crossFactor(0, i, i + 1) : crossInteger(0, i, i + 1);
            }
            return sum;
        }

        /** The point with the greatest or lowest coordinate, x for the axis 0 and y for 2. */
        int outermost(int axis, boolean greatest) {
            int best = 0;
            for (int i = 1; i <= segments; i++) {
                int order = signOf(span(best, i, axis), span(best, i, axis + 1), root());
                if (greatest ? order > 0 : order < 0) {
                    best = i;
                }
            }
            return best;
        }

        /** Counts the pairs of segments that meet and cross, once for each track. */
        void comparePairs() {
            if (compared) {
                return;
            }
            meetingPairs = 0;
            crossingPairs = 0;
            for (int i = 0; i < segments; i++) {
                for (int j = i + 2; j < segments; j++) {
                    if (isCounted(i, j)) {
                        comparePair(i, j);
                    }
                }
            }
            compared = true;
        }

        private boolean isCounted(int i, int j) {
            boolean joinedAtStart = i == 0 && j == segments - 1 && endsAtStart();
            return drawnAt(i) && drawnAt(j) && !joinedAtStart;
        }

        private void comparePair(int i, int j) {
            int startOfSecond = side(i, j);
            int endOfSecond = side(i, j + 1);
            if (startOfSecond * endOfSecond > 0) {
                return;
            }
            int startOfFirst = side(j, i);
            int endOfFirst = side(j, i + 1);
            if (startOfSecond * endOfSecond < 0 && startOfFirst * endOfFirst < 0) {
                crossingPairs++;
                addMeeting(i, j);
            } else if (startOfSecond == 0 && isBetween(i, j) || endOfSecond == 0 && isBetween(i, j + 1)
                    || startOfFirst == 0 && isBetween(j, i) || endOfFirst == 0 && isBetween(j, i + 1)) {
                addMeeting(i, j);
            }
        }

        private void addMeeting(int i, int j) {
            if (meetingPairs == 0) {
                firstPair = 1000 * i + j;
            }
            meetingPairs++;
        }

        /** 1 if a point is to the left of the line along a segment, 0 on it, -1 to its right. */
        private int side(int segment, int point) {
            return signOf(crossInteger(segment, segment + 1, point), crossFactor(segment, segment + 1, point), root());
        }

        /** Whether a point on the line along a segment belongs to the segment. */
        private boolean isBetween(int segment, int point) {
            long integer = 0;
            long factor = 0;
            for (int axis = 0; axis < PARTS; axis += 2) {
                long a = span(point, segment, axis);
                long b = span(point, segment, axis + 1);
                long c = span(point, segment + 1, axis);
                long e = span(point, segment + 1, axis + 1);
                integer += a * c + root() * b * e;
                factor += a * e + b * c;
            }
            return signOf(integer, factor, root()) <= 0;
        }

        /** The integer of the cross product of the ways from a point to two others. */
        private long crossInteger(int from, int first, int second) {
            long plus = span(from, first, 0) * span(from, second, 2)
                    + root() * span(from, first, 1) * span(from, second, 3);
            long minus = span(from, second, 0) * span(from, first, 2)
                    + root() * span(from, second, 1) * span(from, first, 3);
            return plus - minus;
        }

        /** The factor of the root in the cross product of the ways from a point to two others. */
        private long crossFactor(int from, int first, int second) {
            long plus = span(from, first, 0) * span(from, second, 3) + span(from, first, 1) * span(from, second, 2);
            long minus = span(from, second, 0) * span(from, first, 3) + span(from, second, 1) * span(from, first, 2);
            return plus - minus;
        }

        private long span(int from, int to, int part) {
            return partAt(to, part) - partAt(from, part);
        }

        private long root() {
            return directions == 8 ? 2 : 3;
        }
    }

    /** The sides of a smooth track, each with the turn at its end. */
    private static final class Sides {
        private final int[] lengths = new int[MAX_BASICS];
        private final int[] turns = new int[MAX_BASICS];
        private int count;

        void gather(Track track) {
            count = 0;
            int first = firstOfSide(track);
            int length = 0;
            for (int k = 0; k < track.segments; k++) {
                int segment = wrap(first + k, track.segments);
                length += track.lengthAt(segment);
                int turn = turnAfter(track, segment);
                if (turn != 0 && count >= 0 && count < MAX_BASICS) {
                    lengths[count] = length;
                    turns[count] = turn;
                    count++;
                    length = 0;
                }
            }
        }

        /** How many rotations leave the sequence of sides unchanged. */
        int rotations() {
            int found = 0;
            for (int shift = 0; shift < count; shift++) {
                if (isUnchangedBy(shift)) {
                    found++;
                }
            }
            return found;
        }

        boolean hasMirror() {
            for (int sum = 0; sum < count; sum++) {
                if (isMirroredAt(sum)) {
                    return true;
                }
            }
            return false;
        }

        private static int firstOfSide(Track track) {
            for (int i = 0; i < track.segments; i++) {
                if (turnAfter(track, i) != 0) {
                    return wrap(i + 1, track.segments);
                }
            }
            return 0;
        }

        private static int turnAfter(Track track, int segment) {
            int next = wrap(segment + 1, track.segments);
            return wrap(track.headingAt(next) - track.headingAt(segment), track.directions);
        }

        private boolean isUnchangedBy(int shift) {
            for (int i = 0; i < count; i++) {
                int j = wrap(i + shift, count);
                if (lengthOf(i) != lengthOf(j) || turnOf(i) != turnOf(j)) {
                    return false;
                }
            }
            return true;
        }

        /** Whether side i is like side sum - i; the turn after i is then like that before sum - i. */
        private boolean isMirroredAt(int sum) {
            for (int i = 0; i < count; i++) {
                int side = wrap(sum - i, count);
                int before = wrap(sum - i - 1, count);
                if (lengthOf(i) != lengthOf(side) || turnOf(i) != turnOf(before)) {
                    return false;
                }
            }
            return true;
        }

        private int lengthOf(int i) {
            return i >= 0 && i < lengths.length ? lengths[i] : 0;
        }

        private int turnOf(int i) {
            return i >= 0 && i < turns.length ? turns[i] : 0;
        }
    }

    /** Tries walks in alphabetical order, the short ones first. */
    private static final class WalkSearch {
        private final char[] letters = new char[MAX_WALK];
        private final int[] place = new int[PARTS];

        /** The length of the shortest walk to the end of a track, or -1. */
        int find(Track track, int endHeading, int limit) {
            for (int length = 0; length <= limit && length <= MAX_WALK; length++) {
                Arrays.fill(place, 0);
                if (walkOn(track, endHeading, 0, length, 0)) {
                    return length;
                }
            }
            return -1;
        }

        /** Whether the walk that has made so many of its commands can still end where it shall. */
        private boolean walkOn(Track track, int endHeading, int heading, int length, int made) {
            if (made >= length || made < 0 || made >= MAX_WALK) {
                return heading == endHeading && isAtEnd(track);
            }
            move(track.directions, heading, 1);
            if (walkOnAfter('f', track, endHeading, heading, length, made)) {
                return true;
            }
            move(track.directions, heading, -1);
            int left = wrap(heading + 1, track.directions);
            int right = wrap(heading - 1, track.directions);
            return walkOnAfter('l', track, endHeading, left, length, made)
                    || walkOnAfter('r', track, endHeading, right, length, made);
        }

        private boolean walkOnAfter(char letter, Track track, int endHeading, int heading, int length, int made) {
            if (made < 0 || made >= MAX_WALK) {
                return false;
            }
            letters[made] = letter;
            return walkOn(track, endHeading, heading, length, made + 1);
        }

        private void move(int directions, int heading, int times) {
            for (int part = 0; part < PARTS; part++) {
                place[part] += times * movePart(directions, heading, part);
            }
        }

        private boolean isAtEnd(Track track) {
            for (int part = 0; part < PARTS; part++) {
                if (place[part] != track.partAt(track.segments, part)) {
                    return false;
                }
            }
            return true;
        }
    }

    /** Finds how long the shortest text is, from the shortest texts of all parts of a run. */
    private static final class TextMeasure {
        private final int[] shortest = new int[MAX_MEASURED * (MAX_MEASURED + 1)];

        int measure(Journey journey) {
            for (int length = 1; length <= journey.basics && length <= MAX_MEASURED; length++) {
                for (int from = 0; from + length <= journey.basics; from++) {
                    put(from, length, measurePart(journey, from, length));
                }
            }
            return get(0, journey.basics);
        }

        private int measurePart(Journey journey, int from, int length) {
            if (length == 1) {
                return journey.lengthAt(from);
            }
            int best = GREATEST_INT;
            for (int first = 1; first < length; first++) {
                best = Math.min(best, get(from, first) + get(from + first, length - first));
            }
            for (int body = 1; body < length; body++) {
                if (length % body == 0 && isRepetition(journey, from, length, body)) {
                    best = Math.min(best, digitsOf(length / body) + 2 + get(from, body));
                }
            }
            return best;
        }

        private static boolean isRepetition(Journey journey, int from, int length, int body) {
            for (int i = body; i < length; i++) {
                if (!journey.isSame(from + i, from + i - body)) {
                    return false;
                }
            }
            return true;
        }

        private void put(int from, int length, int value) {
            if (from >= 0 && from < MAX_MEASURED && length >= 1 && length <= MAX_MEASURED) {
                shortest[from * (MAX_MEASURED + 1) + length] = value;
            }
        }

        private int get(int from, int length) {
            if (from < 0 || from >= MAX_MEASURED || length < 1 || length > MAX_MEASURED) {
                return 0;
            }
            return shortest[from * (MAX_MEASURED + 1) + length];
        }
    }
}

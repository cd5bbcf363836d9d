import java.math.BigDecimal;
import java.util.ArrayList;
import java.util.Collections;
import java.util.HashMap;
import java.util.List;
import java.util.Map;
import java.util.NoSuchElementException;
import java.util.Random;
import java.util.regex.Matcher;
import java.util.regex.Pattern;

/** Compares the answers for programs made at random with those of the model. */
public final class OracleTest {
    private static final int[] DIRECTIONS = {4, 6, 8, 12};
    private static final Pattern TOKEN = Pattern.compile("[flr]\\d{1,4}|[udA-H]|\\d{1,4}\\(|\\)");
    private static final Pattern BEGUN = Pattern.compile("[flr]?|\\d{1,4}");

    public static void main(String[] args) {
        Random random = new Random(20261118);
        for (int i = 0; i < 6000; i++) {
            compareSyntax(random);
        }
        for (int i = 0; i < 1500; i++) {
            compareRuns(random);
        }
        for (int i = 0; i < 4000; i++) {
            compareCircles(random);
        }
        for (int i = 0; i < 1500; i++) {
            compareSmooth(random);
        }
        for (int i = 0; i < 1500; i++) {
            compareTexts(random);
        }
        Check.end();
    }

    private static void compareSyntax(Random random) {
        String alphabet = random.nextBoolean() ? "f1l2r(3)ud0A9H(" : "f12(u)(1(";
        StringBuilder letters = new StringBuilder();
        int length = random.nextInt(30);
        for (int i = 0; i < length; i++) {
            letters.append(alphabet.charAt(random.nextInt(alphabet.length())));
        }
        if (random.nextInt(20) == 0) {
            letters.append((char) random.nextInt(300));
        }
        String text = random.nextBoolean() ? letters.toString() : program(random, 7, 9, "AH") + letters;
        text = text.substring(0, Math.min(text.length(), 100));
        int error = errorPosition(text);
        String fed = text;
        int want = error >= 0 ? -100 - error : commands(text);
        Check.same("define " + text, want, () -> Check.define(new ExactTurtle(), 'A', fed));
    }

    /** The length of the longest start that a program may have, or -1 for a whole program. */
    static int errorPosition(String text) {
        for (int end = 1; end <= text.length(); end++) {
            if (openAfter(text.substring(0, end)) < 0) {
                return end - 1;
            }
        }
        boolean whole = text.isEmpty() || openAfter(text) == 0;
        return whole ? -1 : text.length();
    }

    /** How many parentheses are open; 1000 more within a command; -1 if this is no start of a program. */
    private static int openAfter(String text) {
        int open = 0;
        Matcher token = TOKEN.matcher(text);
        int at = 0;
        while (at < text.length() && token.region(at, text.length()).lookingAt()) {
            open += token.group().endsWith("(") ? 1 : token.group().equals(")") ? -1 : 0;
            if (open < 0 || open > 6) {
                return -1;
            }
            at = token.end();
        }
        if (at == text.length()) {
            return open;
        }
        return BEGUN.matcher(text.substring(at)).matches() ? open + 1000 : -1;
    }

    static int commands(String text) {
        int count = 0;
        Matcher token = TOKEN.matcher(text);
        while (token.find()) {
            count += token.group().equals(")") ? 0 : 1;
        }
        return count;
    }

    /** A right program of some commands. */
    static String program(Random random, int commands, int greatest, String names) {
        return program(random, commands, greatest, names, 0);
    }

    private static String program(Random random, int commands, int greatest, String names, int open) {
        StringBuilder text = new StringBuilder();
        for (int i = 0; i < commands; i++) {
            switch (random.nextInt(9)) {
                case 0, 1, 2 -> text.append('f').append(random.nextInt(greatest) + (random.nextInt(5) == 0 ? 0 : 1));
                case 3, 4 -> text.append('l').append(random.nextInt(13));
                case 5 -> text.append('r').append(random.nextInt(13));
                case 6 -> text.append(random.nextInt(3) > 0 ? "" : random.nextBoolean() ? "u" : "d");
                case 7 -> text.append(names.isEmpty() ? "" : names.charAt(random.nextInt(names.length())));
                default -> {
                    if (open < 6 && !endsInFreeNumber(text)) {
                        String body = program(random, random.nextInt(4), greatest, names, open + 1);
                        text.append(random.nextInt(5)).append('(').append(body).append(')');
                    }
                }
            }
        }
        return text.toString();
    }

    /** Whether digits that follow would belong to the number before them. */
    private static boolean endsInFreeNumber(StringBuilder text) {
        return text.length() > 0 && Character.isDigit(text.charAt(text.length() - 1));
    }

    private static void compareRuns(Random random) {
        int directions = DIRECTIONS[random.nextInt(4)];
        ExactTurtle x = new ExactTurtle();
        x.setDirections(directions);
        Map<Character, String> procedures = new HashMap<>();
        String names = random.nextInt(3) == 0 ? "" : "ABCDEFGH".substring(0, 1 + random.nextInt(8));
        for (char name : names.toCharArray()) {
            // Mostly procedures call only those before them, so that most runs have an end.
            String known = random.nextInt(20) == 0 ? names : names.substring(0, names.indexOf(name));
            String text = random.nextInt(12) == 0 ? "" : program(random, random.nextInt(5), 5, known);
            if (random.nextInt(30) != 0 && text.length() <= 100) {
                procedures.put(name, text);
                Check.define(x, name, text);
            }
        }
        int greatest = new int[] {1, 2, 5, 40, 2600}[random.nextInt(5)];
        String text = program(random, random.nextInt(14), greatest, names);
        if (text.length() > 100) {
            return;
        }
        x.createTrace(60);
        Model model = new Model(directions, procedures);
        String failure = model.execute(text, 0);
        String what = directions + " " + procedures + " " + text;
        if (failure != null) {
            Check.raises(what, exception(failure), () -> Check.run(x, text));
            compareAll(what, x, new Model(directions, procedures));
            return;
        }
        Check.same(what, model.basics.size(), () -> Check.run(x, text));
        for (int i = 0; i < 60; i++) {
            int n = i;
            Check.same(what + " trace " + n, n < model.headings.size() ? model.headings.get(n) : -1, () -> x.traceAt(n));
        }
        compareAll(what, x, model);
        compareWalk(what, x, model);
    }

    /** Chains of calls that do nothing, on the way round a circle of calls that ends for one reason or another. */
    private static void compareCircles(Random random) {
        ExactTurtle x = new ExactTurtle();
        Map<Character, String> procedures = new HashMap<>();
        int circle = random.nextInt(4);
        for (char name = 'A'; name <= 'H'; name++) {
            boolean onCircle = name < 'A' + circle;
            char next = name + 1 == 'A' + circle ? 'A' : (char) (name + 1);
            StringBuilder text = new StringBuilder();
            for (int i = random.nextInt(3); i > 0 && name < 'H'; i--) {
                text.append((char) (name + 1 + random.nextInt('H' - name)));
            }
            if (onCircle) {
                text.append('f').append(250 + random.nextInt(600)).append(next).append(random.nextBoolean() ? "G" : "");
            }
            procedures.put(name, text.toString());
            Check.define(x, name, text.toString());
        }
        String text = program(random, 1 + random.nextInt(3), 500, "ABCDEFGH") + (char) ('A' + random.nextInt(3));
        Model model = new Model(4, procedures);
        String failure = model.execute(text, 0);
        String what = procedures + " " + text;
        if (failure != null) {
            Check.raises(what, exception(failure), () -> Check.run(x, text));
        } else {
            Check.same(what, model.basics.size(), () -> Check.run(x, text));
            compareCalls(what, x, model);
        }
    }

    static Class<?> exception(String name) {
        return switch (name) {
            case "NoSuchElementException" -> NoSuchElementException.class;
            case "IllegalStateException" -> IllegalStateException.class;
            default -> ArithmeticException.class;
        };
    }

    private static void compareSmooth(Random random) {
        int directions = DIRECTIONS[random.nextInt(4)];
        String body = program(random, 1 + random.nextInt(6), 3, "");
        Model once = new Model(directions, Map.of());
        if (once.execute(body, 0) != null || once.heading() == 0 || body.length() > 40) {
            return;
        }
        if (random.nextInt(3) == 0) {
            List<String> back = new ArrayList<>(once.basics);
            Collections.reverse(back);
            body = String.join("", once.basics) + String.join("", back);
            once = new Model(directions, Map.of());
            once.execute(body, 0);
        }
        int times = once.closingRepeats();
        if (times < 0 || times * once.basics.size() > 300 || body.length() > 90) {
            return;
        }
        String text = times + "(" + body + ")";
        Model model = new Model(directions, Map.of());
        ExactTurtle x = new ExactTurtle();
        x.setDirections(directions);
        if (model.execute(text, 0) == null) {
            Check.same(text, model.basics.size(), () -> Check.run(x, text));
            Check.same(text + " is smooth", true, () -> x.isClosed() && x.direction() == 0);
            compareAll(directions + " " + text, x, model);
        }
    }

    static void compareAll(String what, ExactTurtle x, Model model) {
        comparePoints(what, x, model);
        Check.same(what + " direction", model.heading(), () -> x.direction());
        Check.same(what + " turning", model.turned, () -> x.turning());
        Check.same(what + " isClosed", model.closed(), () -> x.isClosed());
        int repeats = model.closingRepeats();
        if (repeats < 0) {
            Check.raises(what + " closingRepeats", NoSuchElementException.class, () -> x.closingRepeats());
        } else {
            Check.same(what + " closingRepeats", repeats, () -> x.closingRepeats());
        }
        if (model.closed()) {
            BigDecimal area = model.eightfoldArea();
            Check.same(what + " area", 0, () -> Model.sign(model.exact(x.area(0), x.area(1)).subtract(area)));
        } else {
            Check.raises(what + " area", IllegalStateException.class, () -> x.area(1));
        }
        compareCalls(what, x, model);
        compareMeetings(what, x, model);
        compareSides(what, x, model);
        if (model.basics.size() <= 40) {
            int length = Model.shortestText(model.basics, new HashMap<>());
            Check.same(what + " shortestText", length, () -> x.shortestText());
        } else {
            Check.raises(what + " shortestText", IllegalStateException.class, () -> x.shortestText());
        }
    }

    private static void comparePoints(String what, ExactTurtle x, Model model) {
        Check.same(what + " points", model.points.size(), () -> x.points());
        BigDecimal[] low = model.points.get(0).clone();
        BigDecimal[] high = low.clone();
        for (int i = 0; i < model.points.size(); i++) {
            for (int axis = 0; axis < 2; axis++) {
                int n = i;
                int first = 2 * axis;
                BigDecimal want = model.points.get(i)[axis];
                low[axis] = low[axis].min(want);
                high[axis] = high[axis].max(want);
                Check.same(what + " point " + n, 0,
                        () -> Model.sign(model.exact(x.point(n, first), x.point(n, first + 1)).subtract(want)));
            }
        }
        for (int side = 0; side < 4; side++) {
            int s = side;
            BigDecimal want = side % 2 == 0 ? low[side / 2] : high[side / 2];
            Check.same(what + " extreme " + s, 0,
                    () -> Model.sign(model.exact(x.extreme(s, 0), x.extreme(s, 1)).subtract(want)));
        }
        for (int i = 0; i < model.drawn.size(); i++) {
            int n = i;
            Check.same(what + " isDrawn " + n, model.drawn.get(n), () -> x.isDrawn(n));
        }
    }

    private static void compareCalls(String what, ExactTurtle x, Model model) {
        int place = 0;
        for (char name : model.calls.keySet()) {
            int n = place;
            Check.same(what + " called " + n, name, () -> x.called(n));
            place++;
        }
        int end = place;
        Check.raises(what + " called " + end, IndexOutOfBoundsException.class, () -> x.called(end));
        for (char name = 'A'; name <= 'H'; name++) {
            char n = name;
            Check.same(what + " calls " + n, model.calls.getOrDefault(n, 0), () -> x.calls(n));
        }
    }

    private static void compareMeetings(String what, ExactTurtle x, Model model) {
        List<Integer> pairs = model.meetingPairs();
        int crossings = 0;
        for (int pair : pairs) {
            crossings += pair < 0 ? 1 : 0;
        }
        int wantedCrossings = crossings;
        Check.same(what + " meetings", pairs.size(), () -> x.meetings());
        Check.same(what + " crossings", wantedCrossings, () -> x.crossings());
        if (pairs.isEmpty()) {
            Check.raises(what + " firstMeeting", NoSuchElementException.class, () -> x.firstMeeting());
        } else {
            Check.same(what + " firstMeeting", Math.abs(pairs.get(0)), () -> x.firstMeeting());
        }
    }

    private static void compareSides(String what, ExactTurtle x, Model model) {
        if (!model.smooth()) {
            Check.raises(what + " corners", IllegalStateException.class, () -> x.corners());
            Check.raises(what + " symmetry", IllegalStateException.class, () -> x.symmetry());
            Check.raises(what + " isMirrored", IllegalStateException.class, () -> x.isMirrored());
            return;
        }
        List<String> sides = model.sides();
        Check.same(what + " corners", sides.size() / 2, () -> x.corners());
        if (sides.isEmpty()) {
            Check.raises(what + " symmetry", IllegalStateException.class, () -> x.symmetry());
            Check.raises(what + " isMirrored", IllegalStateException.class, () -> x.isMirrored());
            return;
        }
        List<String> back = new ArrayList<>(sides);
        Collections.reverse(back);
        Check.same(what + " symmetry", Model.rotationsThatGive(sides, sides), () -> x.symmetry());
        Check.same(what + " isMirrored", Model.rotationsThatGive(back, sides) > 0, () -> x.isMirrored());
    }

    static void compareWalk(String what, ExactTurtle x, Model model) {
        for (int limit = 0; limit <= 6; limit += 2) {
            int n = limit;
            String walk = model.shortestWalk(limit);
            if (walk == null) {
                Check.raises(what + " walk " + n, NoSuchElementException.class, () -> x.shortestWalk(n));
                continue;
            }
            Check.same(what + " walk " + n, walk.length(), () -> x.shortestWalk(n));
            Check.same(what + " walk " + n, walk, () -> output(x, walk.length()));
        }
    }

    private static String output(ExactTurtle x, int length) {
        StringBuilder letters = new StringBuilder();
        for (int i = 0; i < length; i++) {
            letters.append(x.outputAt(i));
        }
        return letters.toString();
    }

    private static void compareTexts(Random random) {
        String[] parts = {"u", "d", "f1", "l2", "f12"};
        StringBuilder text = new StringBuilder();
        for (int i = 0; i < 3 + random.nextInt(4); i++) {
            String piece = "";
            for (int k = 0; k <= random.nextInt(3); k++) {
                piece += parts[random.nextInt(parts.length)];
            }
            text.append(piece.repeat(1 + random.nextInt(6)));
            if (random.nextInt(3) == 0) {
                text.append(text);
            }
        }
        if (text.length() > 100) {
            return;
        }
        Model model = new Model(4, Map.of());
        ExactTurtle x = new ExactTurtle();
        if (model.execute(text.toString(), 0) == null && model.basics.size() <= 40) {
            Check.run(x, text.toString());
            int length = Model.shortestText(model.basics, new HashMap<>());
            Check.same("shortestText " + text, length, () -> x.shortestText());
        }
    }
}

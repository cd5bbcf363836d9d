import java.math.BigDecimal;
import java.math.MathContext;
import java.util.ArrayList;
import java.util.LinkedHashMap;
import java.util.List;
import java.util.Map;

/** A second, slow way to the answers: roots by sixty digits, texts and lists, and plain trying. */
final class Model {
    static final MathContext DIGITS = new MathContext(60);
    private static final BigDecimal TINY = new BigDecimal("1e-30");

    final int directions;
    final BigDecimal root;
    final Map<Character, String> procedures;
    final List<String> basics = new ArrayList<>();
    final List<Integer> headings = new ArrayList<>();
    final Map<Character, Integer> calls = new LinkedHashMap<>();
    final List<BigDecimal[]> points = new ArrayList<>();
    final List<Boolean> drawn = new ArrayList<>();
    final List<int[]> moves = new ArrayList<>();
    int turned;
    private int rounds;
    private boolean penDown = true;
    private boolean endless;

    Model(int directions, Map<Character, String> procedures) {
        this.directions = directions;
        this.root = new BigDecimal(directions == 8 ? 2 : 3).sqrt(DIGITS);
        this.procedures = procedures;
        points.add(new BigDecimal[] {BigDecimal.ZERO, BigDecimal.ZERO});
    }

    /** Executes a right program; answers null, or the name of the exception that is due. */
    String execute(String text, int active) {
        int at = 0;
        while (at < text.length()) {
            char letter = text.charAt(at);
            int end = Character.isDigit(letter) ? at : at + 1;
            int start = end;
            boolean numbered = Character.isDigit(letter) || "flr".indexOf(letter) >= 0;
            while (numbered && end < text.length() && end - start < 4 && Character.isDigit(text.charAt(end))) {
                end++;
            }
            int number = end > start ? Integer.parseInt(text.substring(start, end)) : 0;
            String failure;
            if (Character.isDigit(letter)) {
                int close = closing(text, end);
                failure = repeat(text.substring(end + 1, close), number, active);
                end = close + 1;
            } else if (Character.isUpperCase(letter)) {
                failure = call(letter, active);
            } else {
                failure = basic(letter, number);
            }
            if (failure != null) {
                return failure;
            }
            at = end;
        }
        return null;
    }

    private static int closing(String text, int open) {
        int depth = 0;
        for (int i = open;; i++) {
            depth += text.charAt(i) == '(' ? 1 : text.charAt(i) == ')' ? -1 : 0;
            if (depth == 0) {
                return i;
            }
        }
    }

    private String repeat(String body, int times, int active) {
        for (int i = 0; i < times; i++) {
            rounds++;
            String failure = rounds > 2000 ? "IllegalStateException" : execute(body, active);
            if (failure != null) {
                return failure;
            }
        }
        return null;
    }

    private String call(char name, int active) {
        if (!procedures.containsKey(name)) {
            return "NoSuchElementException";
        }
        if (active == 8) {
            return "IllegalStateException";
        }
        calls.merge(name, 1, Integer::sum);
        return execute(procedures.get(name), active + 1);
    }

    private String basic(char letter, int number) {
        if (basics.size() == 300) {
            return "IllegalStateException";
        }
        basics.add("ud".indexOf(letter) >= 0 ? "" + letter : "" + letter + number);
        turned += letter == 'l' ? number : letter == 'r' ? -number : 0;
        penDown = letter == 'd' || penDown && letter != 'u';
        headings.add(heading());
        return letter == 'f' && number > 0 && !move(number) ? "ArithmeticException" : null;
    }

    int heading() {
        return Math.floorMod(turned, directions);
    }

    private boolean move(int number) {
        BigDecimal[] from = points.get(points.size() - 1);
        BigDecimal x = from[0].add(twiceCosine(heading() * 360 / directions).multiply(new BigDecimal(number)));
        BigDecimal y = from[1].add(twiceCosine(90 - heading() * 360 / directions).multiply(new BigDecimal(number)));
        points.add(new BigDecimal[] {x, y});
        drawn.add(penDown);
        moves.add(new int[] {heading(), number});
        return endless || inRange();
    }

    BigDecimal twiceCosine(int degrees) {
        return switch (Math.floorMod(degrees, 360)) {
            case 0 -> new BigDecimal(2);
            case 60, 300 -> BigDecimal.ONE;
            case 120, 240 -> BigDecimal.ONE.negate();
            case 180 -> new BigDecimal(-2);
            case 30, 330, 45, 315 -> root;
            case 150, 210, 135, 225 -> root.negate();
            default -> BigDecimal.ZERO;
        };
    }

    /** The parts of the last point, added up from the moves by their angles. */
    private boolean inRange() {
        int[] parts = new int[4];
        for (int[] move : moves) {
            addMove(parts, 0, move[0] * 360 / directions, move[1]);
            addMove(parts, 2, 90 - move[0] * 360 / directions, move[1]);
        }
        for (int part : parts) {
            if (Math.abs(part) > 5000) {
                return false;
            }
        }
        return true;
    }

    private void addMove(int[] parts, int axis, int degrees, int number) {
        BigDecimal step = twiceCosine(degrees);
        boolean ofRoot = step.abs().equals(root);
        parts[ofRoot ? axis + 1 : axis] += number * (ofRoot ? step.signum() : step.intValueExact());
    }

    static int sign(BigDecimal value) {
        return value.abs().compareTo(TINY) < 0 ? 0 : value.signum();
    }

    BigDecimal exact(long integer, long factor) {
        return root.multiply(new BigDecimal(factor)).add(new BigDecimal(integer));
    }

    boolean closed() {
        BigDecimal[] last = points.get(points.size() - 1);
        return sign(last[0]) == 0 && sign(last[1]) == 0;
    }

    boolean smooth() {
        return closed() && heading() == 0;
    }

    BigDecimal eightfoldArea() {
        BigDecimal sum = BigDecimal.ZERO;
        for (int i = 0; i + 1 < points.size(); i++) {
            sum = sum.add(cross(points.get(i), points.get(i + 1)));
        }
        return sum;
    }

    private static BigDecimal cross(BigDecimal[] a, BigDecimal[] b) {
        return a[0].multiply(b[1]).subtract(b[0].multiply(a[1]));
    }

    private static BigDecimal[] minus(BigDecimal[] a, BigDecimal[] b) {
        return new BigDecimal[] {a[0].subtract(b[0]), a[1].subtract(b[1])};
    }

    /** The pairs that meet, as 1000 i + j, negative if they cross; the places along both segments are found. */
    List<Integer> meetingPairs() {
        List<Integer> pairs = new ArrayList<>();
        for (int i = 0; i < drawn.size(); i++) {
            for (int j = i + 2; j < drawn.size(); j++) {
                boolean ends = i == 0 && j == drawn.size() - 1 && closed();
                int meeting = drawn.get(i) && drawn.get(j) && !ends ? meet(i, j) : 0;
                if (meeting != 0) {
                    pairs.add(meeting == 2 ? -(1000 * i + j) : 1000 * i + j);
                }
            }
        }
        return pairs;
    }

    /** 0 apart, 1 meeting, 2 crossing. */
    private int meet(int i, int j) {
        BigDecimal[] p = points.get(i);
        BigDecimal[] r = minus(points.get(i + 1), p);
        BigDecimal[] q = points.get(j);
        BigDecimal[] s = minus(points.get(j + 1), q);
        BigDecimal[] between = minus(q, p);
        BigDecimal turn = cross(r, s);
        if (sign(turn) == 0) {
            return sign(cross(between, r)) == 0 && overlap(i, j) ? 1 : 0;
        }
        BigDecimal alongFirst = cross(between, s).divide(turn, DIGITS);
        BigDecimal alongSecond = cross(between, r).divide(turn, DIGITS);
        int first = inUnit(alongFirst);
        int second = inUnit(alongSecond);
        return first == 0 || second == 0 ? 0 : first == 2 && second == 2 ? 2 : 1;
    }

    private static int inUnit(BigDecimal along) {
        int low = sign(along);
        int high = sign(BigDecimal.ONE.subtract(along));
        return low < 0 || high < 0 ? 0 : low == 0 || high == 0 ? 1 : 2;
    }

    private boolean overlap(int i, int j) {
        for (int axis = 0; axis < 2; axis++) {
            BigDecimal a = points.get(i)[axis];
            BigDecimal b = points.get(i + 1)[axis];
            BigDecimal c = points.get(j)[axis];
            BigDecimal e = points.get(j + 1)[axis];
            if (sign(a.max(b).subtract(c.min(e))) < 0 || sign(c.max(e).subtract(a.min(b))) < 0) {
                return false;
            }
        }
        return true;
    }

    /** The lengths and turns of a smooth track, one after the other, as texts. */
    List<String> sides() {
        List<int[]> sides = new ArrayList<>();
        for (int[] move : moves) {
            if (!sides.isEmpty() && sides.get(sides.size() - 1)[0] == move[0]) {
                sides.get(sides.size() - 1)[1] += move[1];
            } else {
                sides.add(move.clone());
            }
        }
        if (sides.size() > 1 && sides.get(0)[0] == sides.get(sides.size() - 1)[0]) {
            sides.get(0)[1] += sides.remove(sides.size() - 1)[1];
        }
        List<String> texts = new ArrayList<>();
        for (int i = 0; i < sides.size(); i++) {
            int next = sides.get((i + 1) % sides.size())[0];
            texts.add("length " + sides.get(i)[1]);
            texts.add("turn " + Math.floorMod(next - sides.get(i)[0], directions));
        }
        return texts;
    }

    static int rotationsThatGive(List<String> from, List<String> to) {
        List<String> turned = new ArrayList<>(from);
        int found = 0;
        for (int i = 0; i < from.size(); i++) {
            turned.add(turned.remove(0));
            if (turned.equals(to)) {
                found++;
            }
        }
        return found;
    }

    static int shortestText(List<String> basics, Map<List<String>, Integer> known) {
        if (basics.isEmpty()) {
            return 0;
        }
        Integer before = known.get(basics);
        if (before != null) {
            return before;
        }
        int best = basics.get(0).length() + shortestText(basics.subList(1, basics.size()), known);
        for (int body = 1; 2 * body <= basics.size(); body++) {
            List<String> first = basics.subList(0, body);
            for (int times = 2; times * body <= basics.size()
                    && basics.subList((times - 1) * body, times * body).equals(first); times++) {
                int length = ("" + times).length() + 2 + shortestText(first, known)
                        + shortestText(basics.subList(times * body, basics.size()), known);
                best = Math.min(best, length);
            }
        }
        known.put(new ArrayList<>(basics), best);
        return best;
    }

    /** The first of all walks, in the order of length and alphabet, that ends where the run does, or null. */
    String shortestWalk(int limit) {
        List<String> walks = List.of("");
        for (int length = 0; length <= limit; length++) {
            List<String> longer = new ArrayList<>();
            for (String walk : walks) {
                if (endsLikeThis(walk)) {
                    return walk;
                }
                longer.add(walk + "f");
                longer.add(walk + "l");
                longer.add(walk + "r");
            }
            walks = longer;
        }
        return null;
    }

    private boolean endsLikeThis(String walk) {
        int h = 0;
        double x = 0;
        double y = 0;
        for (char letter : walk.toCharArray()) {
            if (letter == 'f') {
                x += 2 * Math.cos(2 * Math.PI * h / directions);
                y += 2 * Math.sin(2 * Math.PI * h / directions);
            }
            h += letter == 'l' ? 1 : letter == 'r' ? -1 : 0;
        }
        BigDecimal[] last = points.get(points.size() - 1);
        return Math.floorMod(h, directions) == heading() && Math.abs(x - last[0].doubleValue()) < 1e-9
                && Math.abs(y - last[1].doubleValue()) < 1e-9;
    }

    /** Executes the basic commands over and over, on a plane without bounds. */
    int closingRepeats() {
        Model again = new Model(directions, procedures);
        again.endless = true;
        String text = String.join("", basics);
        for (int times = 1; times <= 24; times++) {
            again.basics.clear();
            again.execute(text, 0);
            if (again.smooth()) {
                return times;
            }
        }
        return -1;
    }
}

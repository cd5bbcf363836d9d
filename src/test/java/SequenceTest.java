import java.util.Arrays;
import java.util.Map;
import java.util.Random;
import java.util.TreeMap;

/**
 * Many calls of one object, one after the other, each compared with a state that is kept beside it.
 * The class counts no calls, so that all may be asked between them, though the document names 512.
 */
public final class SequenceTest {
    private static final int[] DIRECTIONS = {4, 6, 8, 12};

    private final ExactTurtle x = new ExactTurtle();
    private final Random random;
    private final StringBuilder buffer = new StringBuilder();
    private Map<Character, String> procedures = new TreeMap<>();
    private Map<Character, String> saved;
    private Model lastRun = new Model(4, Map.of());
    private String output = "";
    private int[] trace;

    private SequenceTest(long seed) {
        random = new Random(seed);
    }

    public static void main(String[] args) {
        for (int seed = 0; seed < 300; seed++) {
            Check.topic("sequence " + seed + ": ");
            SequenceTest sequence = new SequenceTest(seed);
            for (int i = 0; i < 40; i++) {
                sequence.call();
                sequence.compare();
            }
        }
        Check.end();
    }

    private void call() {
        switch (random.nextInt(14)) {
            case 0 -> setDirections();
            case 1 -> feedProgram(20, defined());
            case 2 -> feed(String.valueOf("f)(x2A".charAt(random.nextInt(6))));
            case 3, 4 -> define();
            case 5 -> undefine();
            case 6 -> createTrace();
            case 7 -> saveOrRestore();
            case 8, 9, 10, 11, 12 -> run();
            default -> walk();
        }
    }

    private void setDirections() {
        int d = DIRECTIONS[random.nextInt(4)];
        int previous = lastRun.directions;
        Check.same("setDirections " + d, previous, () -> x.setDirections(d));
        lastRun = new Model(d, Map.of());
    }

    private void feedProgram(int commands, String names) {
        int greatest = random.nextInt(20) == 0 ? 2600 : 4;
        feed(OracleTest.program(random, 1 + random.nextInt(commands), greatest, random.nextInt(12) == 0 ? "ABCDEFGH" : names));
    }

    /** Mostly runs call what is defined, so that most of them come to their end. */
    private String defined() {
        StringBuilder names = new StringBuilder();
        for (char name : procedures.keySet()) {
            names.append(name);
        }
        return names.toString();
    }

    private void feed(String text) {
        for (char letter : text.toCharArray()) {
            if (buffer.length() == 100) {
                Check.raises("feed", IllegalStateException.class, () -> x.feed(letter));
            } else {
                buffer.append(letter);
                Check.same("feed " + letter, buffer.length(), () -> x.feed(letter));
            }
        }
    }

    private void define() {
        feedProgram(5, "");
        char name = (char) ((random.nextInt(12) == 0 ? 'E' : 'A') + random.nextInt(5));
        if (name > 'H') {
            Check.raises("define " + name, IllegalArgumentException.class, () -> x.define(name));
            return;
        }
        String text = taken();
        int error = OracleTest.errorPosition(text);
        Check.same("define " + name + " " + text, error >= 0 ? -100 - error : OracleTest.commands(text), () -> x.define(name));
        if (error < 0) {
            procedures.put(name, text);
        }
    }

    private String taken() {
        String text = buffer.toString();
        buffer.setLength(0);
        return text;
    }

    private void undefine() {
        char name = (char) ('A' + random.nextInt(5));
        Check.same("undefine " + name, procedures.remove(name) != null, () -> x.undefine(name));
    }

    private void run() {
        if (random.nextInt(5) > 0) {
            feedProgram(15, defined());
        }
        String text = taken();
        int error = OracleTest.errorPosition(text);
        if (error >= 0) {
            Check.same("run " + text, -100 - error, () -> x.run());
            return;
        }
        Model model = new Model(lastRun.directions, new TreeMap<>(procedures));
        String failure = model.execute(text, 0);
        if (failure != null) {
            Check.raises("run " + text + " with " + procedures, OracleTest.exception(failure), () -> x.run());
            return;
        }
        Check.same("run " + text + " with " + procedures, model.basics.size(), () -> x.run());
        lastRun = model;
        for (int i = 0; trace != null && i < trace.length && i < model.headings.size(); i++) {
            trace[i] = model.headings.get(i);
        }
    }

    private void createTrace() {
        int size = random.nextInt(12) - 1;
        Check.same("createTrace " + size, size < 0 ? -14 : size, () -> x.createTrace(size));
        if (size >= 0) {
            trace = new int[size];
            Arrays.fill(trace, -1);
        }
    }

    private void saveOrRestore() {
        if (random.nextBoolean()) {
            saved = new TreeMap<>(procedures);
            Check.same("saveProcedures", saved.size(), () -> x.saveProcedures());
        } else if (saved == null) {
            Check.raises("restoreProcedures", IllegalStateException.class, () -> x.restoreProcedures());
        } else {
            procedures = new TreeMap<>(saved);
            Check.same("restoreProcedures", saved.size(), () -> x.restoreProcedures());
        }
    }

    private void walk() {
        OracleTest.compareWalk("shortestWalk", x, lastRun);
        for (int limit = 0; limit <= 6; limit += 2) {
            String walk = lastRun.shortestWalk(limit);
            output = walk == null ? output : walk;
        }
    }

    private void compare() {
        OracleTest.compareAll("all", x, lastRun);
        for (int i = 0; i < 9; i++) {
            int n = i;
            if (n < output.length()) {
                Check.same("outputAt " + n, output.charAt(n), () -> x.outputAt(n));
            } else {
                Check.raises("outputAt " + n, IndexOutOfBoundsException.class, () -> x.outputAt(n));
            }
        }
        for (int i = -1; i < 12; i++) {
            int n = i;
            int want = trace == null ? -11 : n < 0 || n >= trace.length ? -13 : trace[n];
            Check.same("traceAt " + n, want, () -> x.traceAt(n));
        }
    }
}

/** Compares answers with those that are due, and counts the wrong ones. */
final class Check {
    private static int wrong = 0;
    private static int done = 0;
    private static String topic = "";

    interface Call {
        Object answer();
    }

    /** What the calls that follow are about, for the report. */
    static void topic(String words) {
        topic = words;
    }

    static void same(String what, Object want, Call call) {
        done++;
        Object got;
        try {
            got = call.answer();
        } catch (RuntimeException e) {
            fail(what, want, e);
            return;
        }
        if (!text(got).equals(text(want))) {
            fail(what, want, got);
        }
    }

    /** The class must be the very one: a class below it would be an exception of the machine. */
    static void raises(String what, Class<?> want, Call call) {
        done++;
        Object got;
        try {
            got = call.answer();
        } catch (RuntimeException e) {
            if (e.getClass() != want) {
                fail(what, want, e);
            }
            return;
        }
        fail(what, want, got);
    }

    static void fail(String what, Object want, Object got) {
        wrong++;
        if (wrong <= 50) {
            System.out.println(topic + what + ": got " + text(got) + ", due is " + text(want));
        }
    }

    static void end() {
        System.out.println(wrong == 0 ? done + " answers are as due" : wrong + " answers are wrong");
        if (wrong != 0) {
            System.exit(1);
        }
    }

    static ExactTurtle feed(ExactTurtle x, String text) {
        for (char letter : text.toCharArray()) {
            x.feed(letter);
        }
        return x;
    }

    static int run(ExactTurtle x, String text) {
        return feed(x, text).run();
    }

    /** Runs a text that has to be right: what is asked next is asked of its run. */
    static void runRight(ExactTurtle x, String text) {
        int basics = run(x, text);
        if (basics < 0) {
            fail("run " + text, "a right text", basics);
        }
    }

    static int define(ExactTurtle x, char name, String text) {
        return feed(x, text).define(name);
    }

    /** A new turtle with so many directions that has run a program. */
    static ExactTurtle after(int directions, String text) {
        ExactTurtle x = new ExactTurtle();
        x.setDirections(directions);
        runRight(x, text);
        return x;
    }

    private static String text(Object value) {
        return value instanceof Character c ? "'" + c + "'" : String.valueOf(value);
    }
}

import java.util.function.Supplier;

/** What the tests share: answers beside those that are due, and calls that must throw and change nothing. */
class Checks {
    static final Class<?> INDEX = IndexOutOfBoundsException.class;
    static final Class<?> ARGUMENT = IllegalArgumentException.class;
    static final Class<?> STATE = IllegalStateException.class;
    static final int NONE = -1;
    static final int LEAST = Integer.MIN_VALUE;
    static final int GREATEST = Integer.MAX_VALUE;

    private static int wrong = 0;
    private static int checks = 0;
    private static String place = "";

    /** Says where in the document the checks that follow have their answers from. */
    static void at(String placeOfDocument) {
        place = placeOfDocument;
    }

    static void fail(String what) {
        wrong++;
        System.out.println(place + ": " + what);
    }

    static void due(String what, Object got, Object want) {
        checks++;
        if (!want.equals(got)) {
            fail(what + " answered " + got + ", due is " + want);
        }
    }

    /** The call throws just this, and nothing has changed after it. */
    static void thrown(Derivationdesk d, Class<?> due, String what, Supplier<Object> call) {
        String before = look(d);
        due(what, answerOf(call), due);
        if (!before.equals(look(d))) {
            fail(what + " threw and changed something");
        }
    }

    /** The answer of a call, or the class of what it throws. */
    static Object answerOf(Supplier<Object> call) {
        try {
            return call.get();
        } catch (RuntimeException e) {
            return e.getClass();
        }
    }

    /** All that can be seen of a desk, but for its draft's parts, of which their number alone can be asked. */
    static String look(Derivationdesk d) {
        StringBuilder s = new StringBuilder();
        s.append(d.digest());
        for (int r = 0; r < d.count(0); r++) {
            s.append('|').append(d.rows(r, 0)).append('|').append(d.rows(r, 1));
            for (int what = 0; what <= 4; what++) s.append(' ').append(d.ofRelation(r, what));
            for (int a = 0; a < 5; a++) {
                for (int b = 0; b < 5; b++) s.append(' ').append(d.since(r, a, d.ofRelation(r, 0) == 1 ? NONE : b));
            }
        }
        for (int rule = 0; rule < d.count(3); rule++) s.append('|').append(d.rule(rule));
        for (int what = 0; what <= 9; what++) s.append(' ').append(d.count(what));
        return s.toString();
    }

    /** Ends the test with exit code 1 if an answer was wrong. */
    static void end() {
        System.out.println(wrong == 0 ? "all " + checks + " answers are as due" : wrong + " answers are wrong");
        System.exit(wrong == 0 ? 0 : 1);
    }
}

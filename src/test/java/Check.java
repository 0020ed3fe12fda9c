/** What the tests share: it compares answers, prints the wrong ones, and ends a test with its exit code. */
final class Check {
    static final int NO_SUCH = -1, BAD_VALUE = -2, CONFLICT = -3, TOO_MANY = -4, NOT_POSSIBLE = -5, NONE = -6;
    static final long GONE = -1000000000000000000L;
    static final int LEAST = Integer.MIN_VALUE, MOST = Integer.MAX_VALUE;

    private static int wrong = 0;
    private static int asked = 0;

    private Check() {
    }

    static void due(String call, long got, long want) {
        asked++;
        if (got != want) {
            wrong++;
            System.out.println(call + " answered " + got + ", due is " + want);
        }
    }

    /** A fraction, asked for by both parts. */
    static void due(String call, long gotNumerator, long gotDenominator, long numerator, long denominator) {
        due(call + " numerator", gotNumerator, numerator);
        due(call + " denominator", gotDenominator, denominator);
    }

    static void say(LayoutSolver x, String text) {
        for (int i = 0; i < text.length(); i++) {
            due("say in " + text, x.say(text.charAt(i)), i + 1);
        }
    }

    /** Empties the text, says this one and parses it. */
    static int put(LayoutSolver x, String text) {
        x.wipe();
        say(x, text);
        return x.parse();
    }

    static LayoutSolver layout(String... texts) {
        LayoutSolver x = new LayoutSolver();
        for (int i = 0; i < texts.length; i++) {
            due("parse " + texts[i], put(x, texts[i]), i);
        }
        return x;
    }

    static void draw(LayoutSolver x, int... coefficients) {
        for (int i = 0; i < 6; i++) {
            x.term(i, i < coefficients.length ? coefficients[i] : 0);
        }
    }

    static String spelled(LayoutSolver x, int constraint) {
        StringBuilder text = new StringBuilder();
        int length = x.spell(constraint, -1);
        for (int i = 0; i < length; i++) {
            text.append((char) x.spell(constraint, i));
        }
        return text.toString();
    }

    static void dueText(LayoutSolver x, int constraint, String want) {
        String got = spelled(x, constraint);
        asked++;
        if (!got.equals(want)) {
            wrong++;
            System.out.println("constraint " + constraint + " is spelled " + got + ", due is " + want);
        }
    }

    static void dueRange(LayoutSolver x, int variable, long low, long high) {
        due("low(" + variable + ")", x.low(variable, 0), x.low(variable, 1), low, 1);
        due("high(" + variable + ")", x.high(variable, 0), x.high(variable, 1), high, 1);
    }

    static void end(String test) {
        System.out.println(test + ": " + asked + " answers, " + wrong + " wrong");
        System.exit(wrong == 0 ? 0 : 1);
    }
}

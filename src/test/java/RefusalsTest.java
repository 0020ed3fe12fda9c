import java.util.function.ToLongFunction;

/** A call that fails answers its code and changes nothing; and a question changes nothing, either. */
public final class RefusalsTest {
    private static final int MOST = Check.MOST, LEAST = Check.LEAST;
    private static final long GONE_NO_SUCH = Check.GONE + Check.NO_SUCH, GONE_BAD = Check.GONE + Check.BAD_VALUE;
    private static final int[] NO_VARIABLES = {-1, 6, LEAST, MOST};
    private static final int[] NO_CONSTRAINTS = {-1, 14, LEAST, MOST};
    private static final int[] NO_COEFFICIENTS = {-4, 4, LEAST, MOST};
    private static final int[] NO_THREE = {-1, 3, LEAST, MOST};
    private static final int[] NO_CONSTANTS = {-201, 201, LEAST, MOST};
    private static final int[] NO_STRENGTHS = {-1, 4, LEAST, MOST};
    private static final int[] NOT_SOFT = {0, 4, -1, LEAST, MOST};
    private static final int[] NO_WEIGHTS = {0, 6, -1, LEAST, MOST};
    private static final int[] NO_TWO = {-1, 2, LEAST, MOST};
    private static final int[] NO_NUMBERS = {-1001, 1001, LEAST, MOST};

    private static final Twins EMPTY = new Twins(x -> { });
    private static final Twins SOME = new Twins(RefusalsTest::some);
    private static final Twins FULL = new Twins(RefusalsTest::full);
    private static final Twins[] ALL = {EMPTY, SOME, FULL};
    private static final Twins[] WITH_CONSTRAINTS = {SOME, FULL};

    public static void main(String[] args) {
        states();
        variables();
        numbersOfConstraints();
        valuesOfNewConstraints();
        valuesOfConstraints();
        valuesOfQuestions();
        characters();
        whenEmpty();
        whenInConflict();
        textsThatAreRefused();
        whenFull();
        questions();
        Check.end("RefusalsTest");
    }

    /** Four constraints, two undone changes, a draft, a text, one slot. */
    private static void some(LayoutSolver x) {
        Check.put(x, "a<5");
        Check.put(x, "a+b=7@s2");
        Check.put(x, "b-c>-3@w");
        Check.put(x, "2d=7");
        x.save(0);
        x.setConstant(1, 9);
        x.setConstant(2, -4);
        x.setStrength(2, 2, 4);
        x.undo();
        x.undo();
        Check.draw(x, 1, 0, -2);
        Check.say(x, "2a-b<1");
    }

    /** Fourteen constraints, twenty changes, a draft, a text of forty characters, both slots. */
    private static void full(LayoutSolver x) {
        String[] texts = {"a<5", "a>-5", "b-a=2@s3", "b+c<9@m", "c>1@w", "3d-2e=4", "e<20@s", "e>30@s2", "f=7@w5",
            "f=9@w4", "a+f=1@m2", "d+e+f>3", "c-d<0@w", "b=4@s"};
        for (int i = 0; i < texts.length; i++) {
            Check.put(x, texts[i]);
            if (i == 5) x.save(1);
        }
        for (int i = 6; i < 13; i++) x.setConstant(i, i);
        x.setStrength(2, 1, 2);
        x.save(0);
        Check.draw(x, 3, -3, 1, 0, 0, 2);
        Check.say(x, "3a-3b+2c-2d+e-f+3a-3a+2b-2b+c-c+3d<199@m");
    }

    private static void states() {
        LayoutSolver x = new LayoutSolver();
        some(x);
        int[] counts = {4, 6, 5, 2, 2};
        for (int what = 0; what <= 4; what++) Check.due("count(" + what + ") of some", x.count(what), counts[what]);
        LayoutSolver y = new LayoutSolver();
        full(y);
        int[] fullCounts = {14, 40, 20, 0, 4};
        for (int what = 0; what <= 4; what++) Check.due("count(" + what + ") of full", y.count(what), fullCounts[what]);
        Check.due("fault() of full", y.fault(), Check.NONE);
    }

    private static void refused(Twins[] states, String call, ToLongFunction<LayoutSolver> made, long code) {
        for (Twins state : states) state.due(call, made, code);
    }

    private static void variables() {
        for (int v : NO_VARIABLES) {
            refused(ALL, "term(" + v + ",1)", x -> x.term(v, 1), Check.NO_SUCH);
            refused(ALL, "low(" + v + ",0)", x -> x.low(v, 0), GONE_NO_SUCH);
            refused(ALL, "high(" + v + ",1)", x -> x.high(v, 1), GONE_NO_SUCH);
            refused(ALL, "reach(" + v + ",0,0)", x -> x.reach(v, 0, 0), GONE_NO_SUCH);
            refused(ALL, "connected(" + v + ")", x -> x.connected(v), Check.NO_SUCH);
            refused(ALL, "force(" + v + ",0,1,0)", x -> x.force(v, 0, 1, 0), GONE_NO_SUCH);
            refused(ALL, "best(" + v + ",0,1)", x -> x.best(v, 0, 1), Check.NO_SUCH);
        }
        for (int k : NO_COEFFICIENTS) {
            refused(ALL, "term(0," + k + ")", x -> x.term(0, k), Check.BAD_VALUE);
            refused(ALL, "term(5," + k + ")", x -> x.term(5, k), Check.BAD_VALUE);
        }
    }

    private static void numbersOfConstraints() {
        for (int c : NO_CONSTRAINTS) noSuch(ALL, c);
        for (int c = 0; c < 14; c++) noSuch(new Twins[] {EMPTY}, c);
        noSuch(new Twins[] {SOME}, 4);
        noSuch(new Twins[] {SOME}, 13);
    }

    private static void noSuch(Twins[] states, int c) {
        refused(states, "remove(" + c + ")", x -> x.remove(c), Check.NO_SUCH);
        refused(states, "setConstant(" + c + ",0)", x -> x.setConstant(c, 0), Check.NO_SUCH);
        refused(states, "setStrength(" + c + ",3,1)", x -> x.setStrength(c, 3, 1), Check.NO_SUCH);
        refused(states, "about(" + c + ",0)", x -> x.about(c, 0), Check.NO_SUCH);
        refused(states, "spell(" + c + ",-1)", x -> x.spell(c, -1), Check.NO_SUCH);
        refused(states, "value(" + c + ",0,0)", x -> x.value(c, 0, 0), GONE_NO_SUCH);
        refused(states, "status(" + c + ")", x -> x.status(c), Check.NO_SUCH);
        refused(states, "play(" + c + ",0)", x -> x.play(c, 0), Check.NO_SUCH);
    }

    private static void valuesOfNewConstraints() {
        for (int r : NO_THREE) {
            refused(ALL, "add(" + r + ",0,3,1)", x -> x.add(r, 0, 3, 1), Check.BAD_VALUE);
            refused(ALL, "blockers(" + r + ",0)", x -> x.blockers(r, 0), Check.BAD_VALUE);
        }
        for (int k : NO_CONSTANTS) {
            refused(ALL, "add(0," + k + ",3,1)", x -> x.add(0, k, 3, 1), Check.BAD_VALUE);
            refused(ALL, "blockers(0," + k + ")", x -> x.blockers(0, k), Check.BAD_VALUE);
        }
        for (int s : NO_STRENGTHS) refused(ALL, "add(0,0," + s + ",1)", x -> x.add(0, 0, s, 1), Check.BAD_VALUE);
        for (int w : NO_WEIGHTS) {
            refused(ALL, "add(0,0,3," + w + ")", x -> x.add(0, 0, 3, w), Check.BAD_VALUE);
            refused(ALL, "add(0,0,0," + w + ")", x -> x.add(0, 0, 0, w), Check.BAD_VALUE);
        }
    }

    private static void valuesOfConstraints() {
        int[] noProperties = {-1, 10, LEAST, MOST};
        for (int c = 0; c < 4; c += 3) valuesOf(c);
        for (int what : noProperties) refused(WITH_CONSTRAINTS, "about(0," + what + ")", x -> x.about(0, what), Check.BAD_VALUE);
    }

    private static void valuesOf(int c) {
        for (int k : NO_CONSTANTS) {
            refused(WITH_CONSTRAINTS, "setConstant(" + c + "," + k + ")", x -> x.setConstant(c, k), Check.BAD_VALUE);
        }
        for (int s : NO_STRENGTHS) {
            refused(WITH_CONSTRAINTS, "setStrength(" + c + "," + s + ",1)", x -> x.setStrength(c, s, 1), Check.BAD_VALUE);
        }
        for (int w : NO_WEIGHTS) {
            refused(WITH_CONSTRAINTS, "setStrength(" + c + ",0," + w + ")", x -> x.setStrength(c, 0, w), Check.BAD_VALUE);
            refused(WITH_CONSTRAINTS, "setStrength(" + c + ",3," + w + ")", x -> x.setStrength(c, 3, w), Check.BAD_VALUE);
        }
        for (int two : NO_TWO) {
            refused(WITH_CONSTRAINTS, "value(" + c + "," + two + ",0)", x -> x.value(c, two, 0), GONE_BAD);
            refused(WITH_CONSTRAINTS, "value(" + c + ",0," + two + ")", x -> x.value(c, 0, two), GONE_BAD);
            refused(WITH_CONSTRAINTS, "play(" + c + "," + two + ")", x -> x.play(c, two), Check.BAD_VALUE);
        }
    }

    private static void valuesOfQuestions() {
        for (int s : NOT_SOFT) {
            refused(ALL, "cost(" + s + ",0)", x -> x.cost(s, 0), GONE_BAD);
            refused(ALL, "force(0,0," + s + ",0)", x -> x.force(0, 0, s, 0), GONE_BAD);
        }
        for (int two : NO_TWO) {
            refused(ALL, "cost(1," + two + ")", x -> x.cost(1, two), GONE_BAD);
            refused(ALL, "low(0," + two + ")", x -> x.low(0, two), GONE_BAD);
            refused(ALL, "high(5," + two + ")", x -> x.high(5, two), GONE_BAD);
            refused(ALL, "reach(0," + two + ",0)", x -> x.reach(0, two, 0), GONE_BAD);
            refused(ALL, "reach(5,0," + two + ")", x -> x.reach(5, 0, two), GONE_BAD);
            refused(ALL, "force(0,0,1," + two + ")", x -> x.force(0, 0, 1, two), GONE_BAD);
            refused(ALL, "save(" + two + ")", x -> x.save(two), Check.BAD_VALUE);
            refused(ALL, "restore(" + two + ")", x -> x.restore(two), Check.BAD_VALUE);
        }
        for (int n : NO_NUMBERS) {
            refused(ALL, "force(0," + n + ",1,0)", x -> x.force(0, n, 1, 0), GONE_BAD);
            refused(ALL, "best(0," + n + "," + n + ")", x -> x.best(0, n, n), Check.BAD_VALUE);
        }
        int[][] noRanges = {{1, 0}, {0, 16}, {-1000, -984}, {986, 1001}, {1000, 999}, {LEAST, MOST}, {MOST, LEAST}, {0, MOST},
            {0, LEAST}, {LEAST, 0}, {MOST - 14, MOST}, {MOST, LEAST + 14}};
        for (int[] n : noRanges) {
            refused(ALL, "best(5," + n[0] + "," + n[1] + ")", x -> x.best(5, n[0], n[1]), Check.BAD_VALUE);
        }
        int[] noCounts = {-1, 5, LEAST, MOST};
        for (int what : noCounts) refused(ALL, "count(" + what + ")", x -> x.count(what), Check.BAD_VALUE);
    }

    private static void characters() {
        int[] none = {32, 127, 0, -1, 10, 128, 97 - 256, 97 + 256, 97 + 65536, LEAST, MOST};
        for (int c : none) refused(ALL, "say(" + c + ")", x -> x.say(c), Check.BAD_VALUE);
    }

    private static void whenEmpty() {
        EMPTY.due("add(0,0,0,1)", x -> x.add(0, 0, 0, 1), Check.NOT_POSSIBLE);
        EMPTY.due("blockers(0,0)", x -> x.blockers(0, 0), Check.NOT_POSSIBLE);
        EMPTY.due("parse()", x -> x.parse(), Check.NOT_POSSIBLE);
        EMPTY.due("undo()", x -> x.undo(), Check.NOT_POSSIBLE);
        EMPTY.due("redo()", x -> x.redo(), Check.NOT_POSSIBLE);
        EMPTY.due("restore(0)", x -> x.restore(0), Check.NOT_POSSIBLE);
        EMPTY.due("restore(1)", x -> x.restore(1), Check.NOT_POSSIBLE);
        SOME.due("restore(1)", x -> x.restore(1), Check.NOT_POSSIBLE);
        EMPTY.due("wipe()", x -> x.wipe(), 0);
        Twins drafted = new Twins(x -> {
            some(x);
            Check.draw(x);
        });
        drafted.due("add, nothing drafted", x -> x.add(0, 0, 3, 1), Check.NOT_POSSIBLE);
        drafted.due("blockers, nothing drafted", x -> x.blockers(0, 0), Check.NOT_POSSIBLE);
        Twins undone = new Twins(x -> {
            some(x);
            for (int i = 0; i < 5; i++) x.undo();
        });
        undone.due("undo() after the last one", x -> x.undo(), Check.NOT_POSSIBLE);
    }

    private static void whenInConflict() {
        Twins drafted = new Twins(x -> {
            some(x);
            Check.draw(x, 1);
        });
        drafted.due("add(2,6,0,1)", x -> x.add(2, 6, 0, 1), Check.CONFLICT);
        drafted.due("add(1,6,0,5)", x -> x.add(1, 6, 0, 5), Check.CONFLICT);
        Twins two = new Twins(x -> {
            some(x);
            Check.put(x, "a>5");
            Check.put(x, "a>6@w2");
            x.setConstant(5, 7);
            x.undo();
        });
        two.due("setConstant(0,4)", x -> x.setConstant(0, 4), Check.CONFLICT);
        two.due("setConstant(0,-200)", x -> x.setConstant(0, -200), Check.CONFLICT);
        two.due("setConstant(4,6)", x -> x.setConstant(4, 6), Check.CONFLICT);
        two.due("setStrength(5,0,2)", x -> x.setStrength(5, 0, 2), Check.CONFLICT);
        two.due("force(0,6,1,0)", x -> x.force(0, 6, 1, 0), Check.GONE + Check.CONFLICT);
        two.due("force(3,3,3,1)", x -> x.force(3, 3, 3, 1), Check.GONE + Check.CONFLICT);
        FULL.due("setConstant(0,-6)", x -> x.setConstant(0, -6), Check.CONFLICT);
        FULL.due("setConstant(1,6)", x -> x.setConstant(1, 6), Check.CONFLICT);
    }

    private static void textsThatAreRefused() {
        String[] texts = {"", "a", "a<", "a<201", "a<1@", "a<1@r1", "a-a<1", "3a-b-2a-a+b=0@w", "2a+2a<1", "-2f-2f<1",
            "3a+3a-a-a>1@s", "a>6", "a=200", "d=3@r"};
        for (int i = 0; i < texts.length; i++) {
            String text = texts[i];
            Twins said = new Twins(x -> {
                some(x);
                x.wipe();
                Check.say(x, text);
            });
            int code = i < 8 ? Check.NOT_POSSIBLE : i < 11 ? Check.BAD_VALUE : Check.CONFLICT;
            said.due("parse() of " + text, x -> x.parse(), code);
        }
    }

    private static void whenFull() {
        FULL.due("say(97)", x -> x.say(97), Check.TOO_MANY);
        FULL.due("add(0,0,3,1)", x -> x.add(0, 0, 3, 1), Check.TOO_MANY);
        FULL.due("add(2,200,0,1)", x -> x.add(2, 200, 0, 1), Check.TOO_MANY);
        FULL.due("parse()", x -> x.parse(), Check.TOO_MANY);
        FULL.due("redo()", x -> x.redo(), Check.NOT_POSSIBLE);
    }

    private static void questions() {
        for (Twins state : ALL) {
            for (int i = 0; i < 6; i++) {
                int v = i;
                state.unchanged("low", x -> x.low(v, 0));
                state.unchanged("high", x -> x.high(v, 1));
                state.unchanged("reach", x -> x.reach(v, v % 2, 0));
                state.unchanged("connected", x -> x.connected(v));
                state.unchanged("force", x -> x.force(v, v - 3, 1 + v % 3, 0));
                state.unchanged("force at the limit", x -> x.force(v, 1000, 1, 0));
                state.unchanged("best", x -> x.best(v, -7, 8));
                state.unchanged("best at the limit", x -> x.best(v, 985, 1000));
            }
            for (int i = 0; i < 14; i++) {
                int c = i;
                state.unchanged("about", x -> x.about(c, c % 10));
                state.unchanged("spell", x -> x.spell(c, -1));
                state.unchanged("spell", x -> x.spell(c, 1));
                state.unchanged("spell", x -> x.spell(c, 40));
                state.unchanged("value", x -> x.value(c, c % 2, 0));
                state.unchanged("status", x -> x.status(c));
                state.unchanged("play", x -> x.play(c, 0));
                state.unchanged("play", x -> x.play(c, 1));
            }
            for (int s = 1; s <= 3; s++) {
                int strength = s;
                state.unchanged("cost", x -> x.cost(strength, 0));
            }
            for (int w = 0; w <= 4; w++) {
                int what = w;
                state.unchanged("count", x -> x.count(what));
            }
            state.unchanged("constraints", x -> x.constraints());
            state.unchanged("fault", x -> x.fault());
            state.unchanged("ambiguous", x -> x.ambiguous());
            state.unchanged("burdens", x -> x.burdens());
            state.unchanged("blockers", x -> x.blockers(2, 200));
            state.unchanged("blockers", x -> x.blockers(0, -200));
            state.unchanged("blockers", x -> x.blockers(1, 0));
        }
    }
}

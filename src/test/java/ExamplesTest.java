/** The four examples of the document's Description, and its constants. */
public final class ExamplesTest {
    public static void main(String[] args) {
        fixedByAFraction();
        contending();
        textAndConflict();
        errors();
        constants();
        Check.end("ExamplesTest");
    }

    private static void fixedByAFraction() {
        LayoutSolver x = new LayoutSolver();
        Check.due("low(0,0)", x.low(0, 0), -1000);
        Check.due("high(0,0)", x.high(0, 0), 1000);
        Check.due("ambiguous()", x.ambiguous(), 63);
        Check.due("term(0,2)", x.term(0, 2), 10);
        Check.due("add(1,7,0,1)", x.add(1, 7, 0, 1), 0);
        Check.due("low(0,0)", x.low(0, 0), 7);
        Check.due("low(0,1)", x.low(0, 1), 2);
        Check.due("ambiguous()", x.ambiguous(), 62);
        Check.due("count(4)", x.count(4), 1);
    }

    private static void contending() {
        LayoutSolver x = new LayoutSolver();
        Check.due("term(0,1)", x.term(0, 1), 10);
        Check.due("add(1,10,1,1)", x.add(1, 10, 1, 1), 0);
        Check.due("term(0,1)", x.term(0, 1), 10);
        Check.due("add(1,20,1,2)", x.add(1, 20, 1, 2), 1);
        Check.due("low(0,0)", x.low(0, 0), 20);
        Check.due("cost(1,0)", x.cost(1, 0), 10);
        Check.due("status(0)", x.status(0), 1);
        Check.due("status(1)", x.status(1), 0);
        Check.due("burdens()", x.burdens(), 3);
        Check.due("setConstant(1,5)", x.setConstant(1, 5), 1020);
        Check.due("cost(1,0)", x.cost(1, 0), 5);
        Check.due("undo()", x.undo(), 1);
        Check.due("cost(1,0)", x.cost(1, 0), 10);
        Check.due("force(0,15,1,0)", x.force(0, 15, 1, 0), 15);
        Check.due("best(0,5,18)", x.best(0, 5, 18), 10018);
    }

    private static void textAndConflict() {
        LayoutSolver x = new LayoutSolver();
        Check.due("say(97)", x.say(97), 1);
        Check.due("say(60)", x.say(60), 2);
        Check.due("say(53)", x.say(53), 3);
        Check.due("parse()", x.parse(), 0);
        Check.due("term(0,1)", x.term(0, 1), 10);
        Check.due("add(2,6,0,1)", x.add(2, 6, 0, 1), -3);
        Check.due("blockers(2,6)", x.blockers(2, 6), 1);
        Check.due("high(0,0)", x.high(0, 0), 5);
        Check.due("spell(0,-1)", x.spell(0, -1), 3);
        Check.due("spell(0,1)", x.spell(0, 1), 60);
        Check.due("reach(0,1,0)", x.reach(0, 1, 0), 5);
        Check.due("play(0,0)", x.play(0, 0), 975);
    }

    private static void errors() {
        LayoutSolver x = new LayoutSolver();
        Check.due("say(97)", x.say(97), 1);
        Check.due("say(60)", x.say(60), 2);
        Check.due("fault()", x.fault(), 2);
        Check.due("parse()", x.parse(), -5);
        Check.due("wipe()", x.wipe(), 2);
        Check.due("add(0,0,0,1)", x.add(0, 0, 0, 1), -5);
        Check.due("undo()", x.undo(), -5);
        Check.due("remove(0)", x.remove(0), -1);
        Check.due("cost(0,0)", x.cost(0, 0), -1000000000000000002L);
        Check.due("low(6,0)", x.low(6, 0), -1000000000000000001L);
    }

    private static void constants() {
        Check.due("NO_SUCH", LayoutSolver.NO_SUCH, -1);
        Check.due("BAD_VALUE", LayoutSolver.BAD_VALUE, -2);
        Check.due("CONFLICT", LayoutSolver.CONFLICT, -3);
        Check.due("TOO_MANY", LayoutSolver.TOO_MANY, -4);
        Check.due("NOT_POSSIBLE", LayoutSolver.NOT_POSSIBLE, -5);
        Check.due("NONE", LayoutSolver.NONE, -6);
        Check.due("GONE", LayoutSolver.GONE, -1000000000000000000L);
        Check.due("AT_MOST", LayoutSolver.AT_MOST, 0);
        Check.due("EQUAL", LayoutSolver.EQUAL, 1);
        Check.due("AT_LEAST", LayoutSolver.AT_LEAST, 2);
        Check.due("REQUIRED", LayoutSolver.REQUIRED, 0);
        Check.due("STRONG", LayoutSolver.STRONG, 1);
        Check.due("MEDIUM", LayoutSolver.MEDIUM, 2);
        Check.due("WEAK", LayoutSolver.WEAK, 3);
    }
}

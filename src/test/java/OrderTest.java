/** Errors are checked in the order in which a method names them, and NONE is told only if there is no error. */
public final class OrderTest {
    private static final long GONE_NO_SUCH = Check.GONE + Check.NO_SUCH, GONE_BAD = Check.GONE + Check.BAD_VALUE;
    private static final int NO_SUCH = Check.NO_SUCH, BAD_VALUE = Check.BAD_VALUE, CONFLICT = Check.CONFLICT;
    private static final int TOO_MANY = Check.TOO_MANY, NOT_POSSIBLE = Check.NOT_POSSIBLE, NONE = Check.NONE;

    public static void main(String[] args) {
        noSuchBeforeBadValue();
        noSuchBeforeBadValueInLongs();
        add();
        parse();
        say();
        changesInConflict();
        blockers();
        forceAndBest();
        noneAfterErrors();
        slots();
        Check.end("OrderTest");
    }

    private static void noSuchBeforeBadValue() {
        LayoutSolver x = Check.layout("a<5");
        for (int c = -1; c <= 14; c += c == 1 ? 12 : 2) {
            Check.due("term(" + (c < 0 ? c : 6) + ",4)", x.term(c < 0 ? c : 6, 4), NO_SUCH);
            Check.due("setConstant(" + c + ",201)", x.setConstant(c, 201), NO_SUCH);
            Check.due("setConstant(" + c + ",-201)", x.setConstant(c, -201), NO_SUCH);
            Check.due("setStrength(" + c + ",4,1)", x.setStrength(c, 4, 1), NO_SUCH);
            Check.due("setStrength(" + c + ",0,6)", x.setStrength(c, 0, 6), NO_SUCH);
            Check.due("about(" + c + ",10)", x.about(c, 10), NO_SUCH);
            Check.due("about(" + c + ",-1)", x.about(c, -1), NO_SUCH);
            Check.due("play(" + c + ",2)", x.play(c, 2), NO_SUCH);
        }
        Check.due("best(6,1,0)", x.best(6, 1, 0), NO_SUCH);
        Check.due("best(-1,-1001,0)", x.best(-1, -1001, 0), NO_SUCH);
    }

    private static void noSuchBeforeBadValueInLongs() {
        LayoutSolver x = Check.layout("a<5");
        int[] none = {-1, 6, 13};
        for (int n : none) {
            Check.due("low(" + n + ",2)", x.low(n, 2), GONE_NO_SUCH);
            Check.due("high(" + n + ",-1)", x.high(n, -1), GONE_NO_SUCH);
            Check.due("reach(" + n + ",2,0)", x.reach(n, 2, 0), GONE_NO_SUCH);
            Check.due("reach(" + n + ",0,2)", x.reach(n, 0, 2), GONE_NO_SUCH);
            Check.due("value(" + n + ",2,0)", x.value(n, 2, 0), GONE_NO_SUCH);
            Check.due("value(" + n + ",0,2)", x.value(n, 0, 2), GONE_NO_SUCH);
            Check.due("force(" + n + ",1001,1,0)", x.force(n, 1001, 1, 0), GONE_NO_SUCH);
            Check.due("force(" + n + ",0,0,0)", x.force(n, 0, 0, 0), GONE_NO_SUCH);
            Check.due("force(" + n + ",0,1,2)", x.force(n, 0, 1, 2), GONE_NO_SUCH);
        }
    }

    /** BAD_VALUE, NOT_POSSIBLE, TOO_MANY, CONFLICT. */
    private static void add() {
        LayoutSolver x = Check.layout("a<5");
        dueBadAdds(x);
        Check.due("add, nothing drafted", x.add(2, 6, 0, 1), NOT_POSSIBLE);
        x.term(0, 1);
        dueBadAdds(x);
        Check.due("add in conflict", x.add(2, 6, 0, 1), CONFLICT);
        x.term(0, 0);
        for (int i = 1; i < 14; i++) Check.put(x, "a<1@w");
        dueBadAdds(x);
        Check.due("add, nothing drafted, one too many", x.add(2, 6, 0, 1), NOT_POSSIBLE);
        x.term(0, 1);
        dueBadAdds(x);
        Check.due("add in conflict, one too many", x.add(2, 6, 0, 1), TOO_MANY);
        x.remove(6);
        dueBadAdds(x);
        Check.due("add in conflict", x.add(2, 6, 0, 1), CONFLICT);
        Check.due("add", x.add(2, 5, 0, 1), 6);
    }

    private static void dueBadAdds(LayoutSolver x) {
        Check.due("add(3,6,0,1)", x.add(3, 6, 0, 1), BAD_VALUE);
        Check.due("add(2,201,0,1)", x.add(2, 201, 0, 1), BAD_VALUE);
        Check.due("add(2,6,-1,1)", x.add(2, 6, -1, 1), BAD_VALUE);
        Check.due("add(2,6,0,0)", x.add(2, 6, 0, 0), BAD_VALUE);
    }

    /** NOT_POSSIBLE, BAD_VALUE, TOO_MANY, CONFLICT. */
    private static void parse() {
        LayoutSolver x = Check.layout("a<5");
        Check.due("4, not correct", Check.put(x, "2a+2a<"), NOT_POSSIBLE);
        Check.due("4", Check.put(x, "2a+2a>20"), BAD_VALUE);
        Check.due("conflict", Check.put(x, "a>6"), CONFLICT);
        Check.due("4, and one that is 0", Check.put(x, "b-b+2a+2a>20"), BAD_VALUE);
        for (int i = 1; i < 14; i++) Check.put(x, "a<1@w");
        Check.due("4, not correct, one too many", Check.put(x, "2a+2a<"), NOT_POSSIBLE);
        Check.due("all 0, one too many", Check.put(x, "2a+2a-2a-2a>20"), NOT_POSSIBLE);
        Check.due("4, one too many", Check.put(x, "2a+2a>20"), BAD_VALUE);
        Check.due("-4, one too many", Check.put(x, "-2f-2f>20"), BAD_VALUE);
        Check.due("conflict, one too many", Check.put(x, "a>6"), TOO_MANY);
        x.remove(13);
        Check.due("conflict", x.parse(), CONFLICT);
        x.setConstant(0, 6);
        Check.due("parse()", x.parse(), 13);
    }

    /** BAD_VALUE, TOO_MANY. */
    private static void say() {
        LayoutSolver x = new LayoutSolver();
        for (int i = 0; i < 40; i++) Check.due("say", x.say('a'), i + 1);
        Check.due("say(32), one too many", x.say(32), BAD_VALUE);
        Check.due("say(127), one too many", x.say(127), BAD_VALUE);
        Check.due("say(33)", x.say(33), TOO_MANY);
        Check.due("say(126)", x.say(126), TOO_MANY);
    }

    /** NO_SUCH, BAD_VALUE, CONFLICT: values that are out of range would be in conflict, too. */
    private static void changesInConflict() {
        LayoutSolver x = Check.layout("a>5", "a<5", "a=6@s");
        Check.due("setConstant(0,6)", x.setConstant(0, 6), CONFLICT);
        Check.due("setConstant(0,200)", x.setConstant(0, 200), CONFLICT);
        Check.due("setConstant(0,201)", x.setConstant(0, 201), BAD_VALUE);
        Check.due("setConstant(1,-200)", x.setConstant(1, -200), CONFLICT);
        Check.due("setConstant(1,-201)", x.setConstant(1, -201), BAD_VALUE);
        Check.due("setConstant(3,200)", x.setConstant(3, 200), NO_SUCH);
        Check.due("setStrength(2,0,5)", x.setStrength(2, 0, 5), CONFLICT);
        Check.due("setStrength(2,0,6)", x.setStrength(2, 0, 6), BAD_VALUE);
        Check.due("setStrength(2,0,0)", x.setStrength(2, 0, 0), BAD_VALUE);
        Check.due("setStrength(3,0,0)", x.setStrength(3, 0, 0), NO_SUCH);
    }

    /** BAD_VALUE, NOT_POSSIBLE; then NONE. */
    private static void blockers() {
        LayoutSolver x = Check.layout("a<5");
        Check.due("nothing drafted", x.blockers(2, 6), NOT_POSSIBLE);
        Check.due("nothing drafted, bad relation", x.blockers(3, 6), BAD_VALUE);
        Check.due("nothing drafted, bad constant", x.blockers(2, 201), BAD_VALUE);
        x.term(1, 3);
        Check.due("not in conflict", x.blockers(2, 6), NONE);
        Check.due("not in conflict, bad relation", x.blockers(-1, 6), BAD_VALUE);
        Check.due("not in conflict, bad constant", x.blockers(2, -201), BAD_VALUE);
    }

    private static void forceAndBest() {
        LayoutSolver x = Check.layout("2a=7");
        Check.due("force(0,3,1,0)", x.force(0, 3, 1, 0), Check.GONE + CONFLICT);
        Check.due("force(0,1001,1,0)", x.force(0, 1001, 1, 0), GONE_BAD);
        Check.due("force(0,3,0,0)", x.force(0, 3, 0, 0), GONE_BAD);
        Check.due("force(0,3,4,0)", x.force(0, 3, 4, 0), GONE_BAD);
        Check.due("force(0,3,1,2)", x.force(0, 3, 1, 2), GONE_BAD);
        Check.due("force(6,3,1,0)", x.force(6, 3, 1, 0), GONE_NO_SUCH);
        Check.due("best(0,0,15)", x.best(0, 0, 15), NONE);
        Check.due("best(0,0,16)", x.best(0, 0, 16), BAD_VALUE);
        Check.due("best(0,1,0)", x.best(0, 1, 0), BAD_VALUE);
        Check.due("best(6,0,15)", x.best(6, 0, 15), NO_SUCH);
    }

    private static void noneAfterErrors() {
        LayoutSolver x = Check.layout("a<5");
        Check.due("spell(0,3)", x.spell(0, 3), NONE);
        Check.due("spell(0,-2)", x.spell(0, -2), NONE);
        Check.due("spell(1,3)", x.spell(1, 3), NO_SUCH);
        Check.due("spell(1,-2)", x.spell(1, -2), NO_SUCH);
        Check.due("spell(-1,99)", x.spell(-1, 99), NO_SUCH);
        Check.due("spell(14,99)", x.spell(14, 99), NO_SUCH);
    }

    private static void slots() {
        LayoutSolver x = new LayoutSolver();
        Check.due("restore(2), nothing saved", x.restore(2), BAD_VALUE);
        Check.due("restore(-1), nothing saved", x.restore(-1), BAD_VALUE);
        Check.due("restore(1), nothing saved", x.restore(1), NOT_POSSIBLE);
    }
}

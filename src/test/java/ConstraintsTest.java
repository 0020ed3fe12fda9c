/** Promises 1 to 8: a new object, term, add, remove, setConstant, setStrength, about, constraints. */
public final class ConstraintsTest {
    public static void main(String[] args) {
        promise1();
        promise2();
        promise3();
        promise3Numbers();
        promise3Conflict();
        promise4();
        promise5();
        promise6();
        promise7();
        promise8();
        Check.end("ConstraintsTest");
    }

    private static void promise1() {
        LayoutSolver old = Check.layout("a<5");
        LayoutSolver x = new LayoutSolver();
        Check.due("constraints()", x.constraints(), 0);
        for (int what = 0; what <= 4; what++) {
            Check.due("count(" + what + ")", x.count(what), 0);
        }
        for (int variable = 0; variable < 6; variable++) {
            Check.dueRange(x, variable, -1000, 1000);
            Check.due("reach", x.reach(variable, 0, 0), -1000);
            Check.due("reach", x.reach(variable, 1, 0), 1000);
            Check.due("connected", x.connected(variable), 1 << variable);
            Check.due("term", x.term(variable, 0), 10);
        }
        for (int strength = 1; strength <= 3; strength++) {
            Check.due("cost", x.cost(strength, 0), x.cost(strength, 1), 0, 1);
        }
        Check.due("ambiguous()", x.ambiguous(), 63);
        Check.due("burdens()", x.burdens(), 0);
        Check.due("fault()", x.fault(), 0);
        Check.due("redo()", x.redo(), Check.NOT_POSSIBLE);
        Check.due("restore(1)", x.restore(1), Check.NOT_POSSIBLE);
        Check.due("the other object's constraints()", old.constraints(), 1);
    }

    private static void promise2() {
        LayoutSolver x = new LayoutSolver();
        Check.due("term(5,-3)", x.term(5, -3), 10);
        Check.due("term(5,3)", x.term(5, 3), 7);
        Check.due("term(5,4)", x.term(5, 4), Check.BAD_VALUE);
        Check.due("term(5,-4)", x.term(5, -4), Check.BAD_VALUE);
        Check.due("term(5,least)", x.term(5, Check.LEAST), Check.BAD_VALUE);
        Check.due("term(5,0)", x.term(5, 0), 13);
        Check.due("term(5,0)", x.term(5, 0), 10);
        Check.due("term(-1,1)", x.term(-1, 1), Check.NO_SUCH);
        Check.due("term(6,1)", x.term(6, 1), Check.NO_SUCH);
        Check.due("term(6,4)", x.term(6, 4), Check.NO_SUCH);
        Check.due("term(most,4)", x.term(Check.MOST, 4), Check.NO_SUCH);
    }

    private static void promise3() {
        LayoutSolver x = new LayoutSolver();
        int[][] bad = {{-1, 0, 0, 1}, {3, 0, 0, 1}, {0, -201, 0, 1}, {0, 201, 0, 1}, {0, 0, -1, 1}, {0, 0, 4, 1},
            {0, 0, 0, 0}, {0, 0, 0, 6}, {Check.MOST, 0, 0, 1}, {0, Check.LEAST, 0, 1}, {0, 0, Check.LEAST, 1}};
        for (int[] b : bad) {
            Check.due("add of a bad value, nothing drafted", x.add(b[0], b[1], b[2], b[3]), Check.BAD_VALUE);
        }
        Check.due("add, nothing drafted", x.add(0, 0, 0, 1), Check.NOT_POSSIBLE);
        Check.draw(x, 1, -2, 3, 0, 0, -3);
        for (int[] b : bad) {
            Check.due("add of a bad value", x.add(b[0], b[1], b[2], b[3]), Check.BAD_VALUE);
        }
        Check.due("add(2,-200,3,5)", x.add(2, -200, 3, 5), 0);
        Check.dueText(x, 0, "a-2b+3c-3f>-200@w5");
        for (int variable = 0; variable < 6; variable++) {
            Check.due("term after add", x.term(variable, 0), 10);
        }
        Check.due("add, nothing drafted any more", x.add(0, 0, 0, 1), Check.NOT_POSSIBLE);
        Check.due("count(2)", x.count(2), 1);
    }

    private static void promise3Numbers() {
        LayoutSolver x = new LayoutSolver();
        for (int i = 0; i < 14; i++) {
            Check.draw(x, 1);
            Check.due("add", x.add(0, i, i % 4, 1), i);
        }
        Check.due("add, nothing drafted", x.add(2, 100, 0, 1), Check.NOT_POSSIBLE);
        Check.draw(x, 1);
        Check.due("add of a bad value", x.add(2, 201, 0, 1), Check.BAD_VALUE);
        Check.due("the 15th, though in conflict", x.add(2, 100, 0, 1), Check.TOO_MANY);
        Check.due("term stays", x.term(0, 1), 11);
        x.remove(9);
        x.remove(3);
        Check.due("lowest number", x.add(0, 0, 1, 1), 3);
        Check.draw(x, 1);
        Check.due("next number", x.add(0, 0, 1, 1), 9);
    }

    private static void promise3Conflict() {
        LayoutSolver x = Check.layout("a<5");
        Check.draw(x, 1);
        Check.due("a>6", x.add(2, 6, 0, 1), Check.CONFLICT);
        Check.due("count(0)", x.count(0), 1);
        Check.due("count(2)", x.count(2), 1);
        Check.due("high", x.high(0, 0), 5);
        Check.due("a=6@s", x.add(1, 6, 1, 1), 1);
        Check.draw(x, 1);
        Check.due("a>5", x.add(2, 5, 0, 1), 2);
        Check.dueRange(x, 0, 5, 5);
        // 3 * 3 * 200 is farther than the limit of a variable.
        LayoutSolver far = Check.layout("c=200", "b-3c=0");
        Check.draw(far, 1, -3);
        Check.due("a=3b", far.add(1, 0, 0, 1), Check.CONFLICT);
        Check.due("a>3b-200", far.add(2, -200, 0, 1), Check.CONFLICT);
        Check.due("a=3b, but strong", far.add(1, 0, 1, 1), 2);
        Check.due("cost", far.cost(1, 0), 800);
    }

    private static void promise4() {
        LayoutSolver x = Check.layout("a<5", "b<6", "c<7");
        Check.due("remove(3)", x.remove(3), Check.NO_SUCH);
        Check.due("remove(-1)", x.remove(-1), Check.NO_SUCH);
        Check.due("remove(14)", x.remove(14), Check.NO_SUCH);
        Check.due("remove(most)", x.remove(Check.MOST), Check.NO_SUCH);
        Check.due("remove(0)", x.remove(0), 2);
        Check.due("remove(0) again", x.remove(0), Check.NO_SUCH);
        Check.dueText(x, 1, "b<6");
        Check.dueText(x, 2, "c<7");
        Check.dueRange(x, 0, -1000, 1000);
        Check.dueRange(x, 2, -1000, 7);
        Check.due("remove(2)", x.remove(2), 1);
        Check.due("remove(1)", x.remove(1), 0);
        Check.due("constraints()", x.constraints(), 0);
    }

    private static void promise5() {
        LayoutSolver x = Check.layout("a<5", "a>3", "b=7@m");
        Check.due("setConstant(0,4)", x.setConstant(0, 4), 1005);
        Check.dueRange(x, 0, 3, 4);
        Check.due("setConstant(0,2)", x.setConstant(0, 2), Check.CONFLICT);
        Check.dueRange(x, 0, 3, 4);
        Check.due("setConstant(0,3)", x.setConstant(0, 3), 1004);
        Check.dueRange(x, 0, 3, 3);
        Check.due("setConstant(2,-200)", x.setConstant(2, -200), 1007);
        Check.due("setConstant(2,200)", x.setConstant(2, 200), 800);
        Check.dueRange(x, 1, 200, 200);
        Check.due("setConstant(2,201)", x.setConstant(2, 201), Check.BAD_VALUE);
        Check.due("setConstant(2,-201)", x.setConstant(2, -201), Check.BAD_VALUE);
        Check.due("setConstant(3,201)", x.setConstant(3, 201), Check.NO_SUCH);
        Check.due("setConstant(-1,0)", x.setConstant(-1, 0), Check.NO_SUCH);
        Check.due("setConstant(14,0)", x.setConstant(14, 0), Check.NO_SUCH);
        Check.due("count(2)", x.count(2), 7);
        Check.due("the same once more", x.setConstant(2, 200), 1200);
        Check.due("count(2)", x.count(2), 8);
    }

    private static void promise6() {
        LayoutSolver x = Check.layout("a<5", "a>6@s2", "a>9@w");
        Check.due("cost", x.cost(1, 0), 2);
        Check.due("setStrength(1,0,1)", x.setStrength(1, 0, 1), Check.CONFLICT);
        Check.due("setStrength(1,2,5)", x.setStrength(1, 2, 5), 1);
        Check.due("cost", x.cost(1, 0), 0);
        Check.due("cost", x.cost(2, 0), 5);
        Check.due("setStrength(0,3,1)", x.setStrength(0, 3, 1), 0);
        Check.due("now it is possible", x.setStrength(1, 0, 3), 2);
        Check.due("but not back", x.setStrength(0, 0, 1), Check.CONFLICT);
        Check.due("setStrength(0,4,1)", x.setStrength(0, 4, 1), Check.BAD_VALUE);
        Check.due("setStrength(0,-1,1)", x.setStrength(0, -1, 1), Check.BAD_VALUE);
        Check.due("setStrength(0,0,0)", x.setStrength(0, 0, 0), Check.BAD_VALUE);
        Check.due("setStrength(0,0,6)", x.setStrength(0, 0, 6), Check.BAD_VALUE);
        Check.due("setStrength(3,4,6)", x.setStrength(3, 4, 6), Check.NO_SUCH);
        Check.due("setStrength(-1,0,1)", x.setStrength(-1, 0, 1), Check.NO_SUCH);
        Check.due("setStrength(0,3,1)", x.setStrength(0, 3, 1), 3);
        Check.due("count(2)", x.count(2), 7);
        Check.due("weight", x.about(1, 9), 3);
        Check.due("cost", x.cost(3, 0), 4);
    }

    private static void promise7() {
        LayoutSolver x = Check.layout("3a-3b+c-d>-17@m4", "f=0");
        int[] want = {13, 7, 11, 9, 10, 10, 2, 983, 2, 4};
        int[] wantSecond = {10, 10, 10, 10, 10, 11, 1, 1000, 0, 1};
        for (int what = 0; what < 10; what++) {
            Check.due("about(0," + what + ")", x.about(0, what), want[what]);
            Check.due("about(1," + what + ")", x.about(1, what), wantSecond[what]);
        }
        Check.due("about(0,-1)", x.about(0, -1), Check.BAD_VALUE);
        Check.due("about(0,10)", x.about(0, 10), Check.BAD_VALUE);
        Check.due("about(2,10)", x.about(2, 10), Check.NO_SUCH);
        Check.due("about(-1,0)", x.about(-1, 0), Check.NO_SUCH);
        Check.due("about(14,0)", x.about(14, 0), Check.NO_SUCH);
    }

    private static void promise8() {
        LayoutSolver x = new LayoutSolver();
        int want = 0;
        for (int i = 0; i < 14; i++) {
            Check.draw(x, 0, 1);
            x.add(0, i, 2, 1);
            want |= 1 << i;
            Check.due("constraints()", x.constraints(), want);
        }
        x.remove(0);
        x.remove(7);
        Check.due("constraints()", x.constraints(), 16383 - 1 - 128);
    }
}

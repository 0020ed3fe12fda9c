/** Promises 24 to 28: blockers, force, best, burdens, play. */
public final class WhatIfTest {
    public static void main(String[] args) {
        promise24();
        promise24Errors();
        promise25();
        promise26();
        promise27();
        promise28();
        nothingChanges();
        Check.end("WhatIfTest");
    }

    private static void promise24() {
        LayoutSolver x = Check.layout("a<5", "a<4", "a<3@s", "b<2");
        Check.draw(x, 1);
        Check.due("the first one is left out", x.blockers(2, 6), 2);
        Check.due("only one blocks", x.blockers(2, 5), 2);
        Check.due("a strong one does not block", x.blockers(2, 4), Check.NONE);
        Check.due("equal", x.blockers(1, 5), 2);
        Check.due("at most", x.blockers(0, -200), Check.NONE);
        Check.draw(x, 1, 1);
        Check.due("two together", x.blockers(2, 7), 2 + 8);
        Check.due("not in conflict", x.blockers(2, 6), Check.NONE);
        LayoutSolver far = Check.layout("c=200", "d<7", "b-3c=0");
        Check.draw(far, 1, -3);
        Check.due("with the limits", far.blockers(1, 0), 1 + 4);
        Check.due("just at the limit", Check.layout("c=200").blockers(0, 0), Check.NOT_POSSIBLE);
        Check.due("draft stays", far.term(1, 0), 7);
        Check.due("far from the limits", far.blockers(1, 0), Check.NONE);
        LayoutSolver none = new LayoutSolver();
        Check.draw(none, 3, 3);
        Check.due("no constraints", none.blockers(2, 200), Check.NONE);
        LayoutSolver many = Check.layout("a=0", "a=0", "b=0", "a+b=0", "a-b=0");
        Check.draw(many, 1);
        Check.due("the last ones remain", many.blockers(1, 1), 8 + 16);
        many.remove(3);
        many.remove(4);
        Check.due("what was left out counts again", many.reach(0, 1, 0), 0);
        many.remove(1);
        Check.due("the first one, too", many.reach(0, 1, 0), 0);
        many.remove(0);
        Check.due("but not what was removed", many.reach(0, 1, 0), 1000);
    }

    private static void promise24Errors() {
        LayoutSolver x = Check.layout("a<5");
        Check.due("bad relation", x.blockers(3, 0), Check.BAD_VALUE);
        Check.due("bad relation", x.blockers(-1, 0), Check.BAD_VALUE);
        Check.due("bad constant", x.blockers(0, 201), Check.BAD_VALUE);
        Check.due("bad constant", x.blockers(0, -201), Check.BAD_VALUE);
        Check.due("nothing drafted", x.blockers(0, 200), Check.NOT_POSSIBLE);
        Check.draw(x, 1);
        Check.due("bad constant", x.blockers(2, 201), Check.BAD_VALUE);
        Check.due("blockers", x.blockers(2, 200), 1);
    }

    private static void promise25() {
        LayoutSolver x = Check.layout("a=10@s2", "2b-a=0", "b=7@w", "a>-30@m", "c<5");
        Check.due("force", x.force(0, 10, 1, 0), 0);
        Check.due("force", x.force(0, 11, 1, 0), 2);
        Check.due("force", x.force(0, 11, 3, 0), 3);
        Check.due("force", x.force(0, 11, 3, 1), 2);
        Check.due("force", x.force(0, -40, 2, 0), 10);
        Check.due("force", x.force(0, -1000, 1, 0), 2020);
        Check.due("force", x.force(1, 500, 1, 0), 1980);
        Check.due("force", x.force(1, 501, 1, 0), Check.GONE + Check.CONFLICT);
        Check.due("force", x.force(2, 5, 1, 0), 0);
        Check.due("force", x.force(2, 6, 1, 0), Check.GONE + Check.CONFLICT);
        Check.due("force", x.force(5, 1000, 3, 1), 1);
        Check.dueRange(x, 0, 10, 10);
        Check.due("force(6,..)", x.force(6, 1001, 0, 2), Check.GONE + Check.NO_SUCH);
        Check.due("force(-1,..)", x.force(-1, 0, 1, 0), Check.GONE + Check.NO_SUCH);
        int[][] bad = {{1001, 1, 0}, {-1001, 1, 0}, {6, 0, 0}, {6, 4, 0}, {6, 1, 2}, {6, 1, -1}, {Check.LEAST, 1, 0}};
        for (int[] b : bad) {
            Check.due("force of a bad value", x.force(2, b[0], b[1], b[2]), Check.GONE + Check.BAD_VALUE);
        }
    }

    private static void promise26() {
        LayoutSolver x = Check.layout("2a=7@s", "2b=7", "c>5", "c<9", "c=20@w", "d=3@m", "d=6@m", "d=6@w");
        Check.due("of 3 and 4 the smaller", x.best(0, -5, 10), 10003);
        Check.due("best(0,4,19)", x.best(0, 4, 19), 10004);
        Check.due("best(0,-20,-5)", x.best(0, -20, -5), 9995);
        Check.due("best(0,-20,-20)", x.best(0, -20, -20), 9980);
        Check.due("no integer", x.best(1, 0, 15), Check.NONE);
        Check.due("some of them feasible", x.best(2, 0, 15), 10009);
        Check.due("none of them feasible", x.best(2, 10, 25), Check.NONE);
        Check.due("weak decides", x.best(3, 0, 15), 10006);
        Check.due("without any cost", x.best(5, -1000, -985), 9000);
        Check.due("at the end", x.best(5, 985, 1000), 10985);
        Check.due("the last one", x.best(5, 1000, 1000), 11000);
        Check.due("best(6,2,1)", x.best(6, 2, 1), Check.NO_SUCH);
        Check.due("best(-1,0,0)", x.best(-1, 0, 0), Check.NO_SUCH);
        int[][] bad = {{0, -1}, {0, 16}, {-1001, -1000}, {1001, 1001}, {990, 1001}, {Check.MOST, Check.LEAST},
            {Check.LEAST, Check.MOST}, {Check.MOST, Check.MOST}, {Check.LEAST, Check.LEAST}};
        for (int[] b : bad) {
            Check.due("best of a bad range", x.best(1, b[0], b[1]), Check.BAD_VALUE);
        }
    }

    private static void promise27() {
        Check.due("nothing", new LayoutSolver().burdens(), 0);
        LayoutSolver x = Check.layout("a<5", "a=10@w", "b=3@s", "a<6");
        Check.due("burdens()", x.burdens(), 3);
        Check.put(x, "2a<10");
        Check.due("neither alone", x.burdens(), 2);
        LayoutSolver order = Check.layout("a=0@s", "a=0@s", "a=7@s", "a=7@m", "a=8@w");
        Check.due("one of each", order.burdens(), 31);
        LayoutSolver shifted = Check.layout("a=0@s", "a=7@w2", "a=0@w");
        Check.due("a strong one that costs weak", shifted.burdens(), 3);
        LayoutSolver far = Check.layout("c=200", "b-3c=0", "a-3b=0@s");
        Check.due("with the limits", far.burdens(), 7);
    }

    private static void promise28() {
        LayoutSolver x = Check.layout("a<5", "a>3", "b=190@w", "c=10@s", "c<20", "2d=7", "d=100@m");
        int[][] want = {{1003, 1035}, {973, 1005}, {1160, 1200}, {980, 1020}, {1010, 1050}, {1007, 1007}, {1100, 1100}};
        for (int i = 0; i < want.length; i++) {
            Check.due("play(" + i + ",0)", x.play(i, 0), want[i][0]);
            Check.due("play(" + i + ",1)", x.play(i, 1), want[i][1]);
        }
        LayoutSolver low = Check.layout("a<-190", "b>-3@s", "b<-5@s");
        Check.due("play(0,0)", low.play(0, 0), 800);
        Check.due("play(1,0)", low.play(1, 0), 997);
        Check.due("play(1,1)", low.play(1, 1), 997);
        LayoutSolver wide = Check.layout("a=0@s", "a=50@m", "a<50@w");
        Check.due("not as far as the costs allow", wide.play(2, 0), 1020);
        Check.due("play(2,1)", wide.play(2, 1), 1080);
        Check.due("play(7,2)", x.play(7, 2), Check.NO_SUCH);
        Check.due("play(-1,0)", x.play(-1, 0), Check.NO_SUCH);
        Check.due("play(14,0)", x.play(14, 0), Check.NO_SUCH);
        Check.due("play(0,2)", x.play(0, 2), Check.BAD_VALUE);
        Check.due("play(0,-1)", x.play(0, -1), Check.BAD_VALUE);
    }

    private static void nothingChanges() {
        LayoutSolver x = Check.layout("a<5", "a=10@w2", "a-b=0", "b>-7");
        Check.draw(x, 0, 1);
        for (int round = 0; round < 2; round++) {
            Check.due("blockers", x.blockers(2, 8), 1 + 4);
            Check.due("force", x.force(0, 1, 3, 0), 18);
            Check.due("best", x.best(1, -9, 0), 10000);
            Check.due("burdens", x.burdens(), 3);
            Check.due("play", x.play(3, 1), 1005);
            Check.due("cost", x.cost(3, 0), 10);
            Check.dueRange(x, 1, 5, 5);
            Check.due("reach", x.reach(0, 0, 0), -7);
            Check.due("constraints()", x.constraints(), 15);
            Check.due("count(2)", x.count(2), 4);
            Check.dueText(x, 3, "b>-7");
        }
        Check.due("draft", x.term(1, 0), 11);
    }
}

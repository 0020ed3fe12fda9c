/** Promises 14 and 15: undo and redo. */
public final class ChangesTest {
    public static void main(String[] args) {
        eachKind();
        numbers();
        atMostTwenty();
        whatEmptiesTheUndone();
        Check.end("ChangesTest");
    }

    private static void eachKind() {
        LayoutSolver x = new LayoutSolver();
        Check.due("undo()", x.undo(), Check.NOT_POSSIBLE);
        Check.due("redo()", x.redo(), Check.NOT_POSSIBLE);
        Check.draw(x, 1);
        x.add(0, 5, 0, 2);
        Check.due("draft after add", x.term(0, 2), 10);
        x.setConstant(0, 7);
        x.setStrength(0, 3, 4);
        x.remove(0);
        Check.put(x, "b=1");
        String[] states = {"", "a<5", "a<7", "a<7@w4", "", "b=1"};
        for (int i = 4; i >= 0; i--) {
            Check.due("undo()", x.undo(), 1);
            Check.dueText(x, 0, states[i]);
            Check.due("count(2)", x.count(2), i);
            Check.due("count(3)", x.count(3), 5 - i);
        }
        Check.due("undo()", x.undo(), Check.NOT_POSSIBLE);
        Check.due("draft stays", x.term(0, 2), 12);
        for (int i = 1; i <= 5; i++) {
            Check.due("redo()", x.redo(), 1);
            Check.dueText(x, 0, states[i]);
            Check.due("count(2)", x.count(2), i);
        }
        Check.due("redo()", x.redo(), Check.NOT_POSSIBLE);
        x.undo();
        x.undo();
        x.undo();
        Check.due("weight comes back", x.about(0, 9), 2);
        Check.due("high", x.high(0, 0), 7);
    }

    private static void numbers() {
        LayoutSolver x = Check.layout("a<5", "b<6", "c<7");
        x.remove(0);
        x.remove(1);
        Check.due("add", Check.put(x, "d<8"), 0);
        x.undo();
        x.undo();
        Check.dueText(x, 1, "b<6");
        Check.due("constraints()", x.constraints(), 6);
        x.undo();
        Check.dueText(x, 0, "a<5");
        x.redo();
        x.redo();
        x.redo();
        Check.dueText(x, 0, "d<8");
        Check.due("constraints()", x.constraints(), 5);
        Check.dueRange(x, 1, -1000, 1000);
        Check.dueRange(x, 3, -1000, 8);
    }

    private static void atMostTwenty() {
        LayoutSolver x = Check.layout("a<0");
        for (int i = 1; i <= 30; i++) {
            x.setConstant(0, i);
            Check.due("count(2)", x.count(2), Math.min(20, i + 1));
        }
        for (int i = 29; i >= 10; i--) {
            Check.due("undo()", x.undo(), 1);
            Check.due("constant", x.about(0, 7), 1000 + i);
        }
        Check.due("undo()", x.undo(), Check.NOT_POSSIBLE);
        Check.due("count(3)", x.count(3), 20);
        for (int i = 11; i <= 30; i++) {
            Check.due("redo()", x.redo(), 1);
            Check.due("high", x.high(0, 0), i);
        }
        Check.due("redo()", x.redo(), Check.NOT_POSSIBLE);
        Check.due("count(2)", x.count(2), 20);
        x.undo();
        x.undo();
        x.setConstant(0, 99);
        Check.due("count(2)", x.count(2), 19);
        Check.due("count(3)", x.count(3), 0);
        x.setConstant(0, 98);
        x.setConstant(0, 97);
        Check.due("count(2)", x.count(2), 20);
        x.undo();
        x.undo();
        Check.due("constant", x.about(0, 7), 1099);
    }

    private static void whatEmptiesTheUndone() {
        LayoutSolver x = Check.layout("a<5", "a>3");
        x.setConstant(0, 4);
        x.undo();
        x.setConstant(0, 2);
        x.setStrength(0, 0, 9);
        x.remove(7);
        x.add(0, 0, 0, 1);
        x.save(0);
        x.say(97);
        x.term(0, 1);
        x.play(0, 0);
        x.burdens();
        x.best(0, 1, 9);
        x.blockers(0, 1);
        Check.due("count(2)", x.count(2), 2);
        Check.due("count(3)", x.count(3), 1);
        Check.due("redo()", x.redo(), 1);
        x.undo();
        Check.due("the same constant", x.setConstant(0, 5), 1005);
        Check.due("redo()", x.redo(), Check.NOT_POSSIBLE);
        x.undo();
        x.restore(0);
        Check.due("redo() after restore", x.redo(), Check.NOT_POSSIBLE);
        Check.due("undo() after restore", x.undo(), Check.NOT_POSSIBLE);
    }
}

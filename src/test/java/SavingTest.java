/** Promises 29 to 31: count, save, restore. */
public final class SavingTest {
    public static void main(String[] args) {
        promise29();
        promise30And31();
        whatStays();
        Check.end("SavingTest");
    }

    private static void dueCounts(LayoutSolver x, int... want) {
        for (int i = 0; i < want.length; i++) {
            Check.due("count(" + i + ")", x.count(i), want[i]);
        }
    }

    private static void promise29() {
        LayoutSolver x = Check.layout("a<5", "b<5@s", "c<5");
        Check.say(x, "ab");
        dueCounts(x, 3, 2, 3, 0, 2);
        x.undo();
        dueCounts(x, 2, 2, 2, 1, 1);
        x.setStrength(1, 0, 1);
        dueCounts(x, 2, 2, 3, 0, 2);
        x.remove(0);
        dueCounts(x, 1, 2, 4, 0, 1);
        Check.due("count(-1)", x.count(-1), Check.BAD_VALUE);
        Check.due("count(5)", x.count(5), Check.BAD_VALUE);
        Check.due("count(least)", x.count(Check.LEAST), Check.BAD_VALUE);
    }

    private static void promise30And31() {
        LayoutSolver x = Check.layout("a<5", "b<6", "c=7@w3");
        int[] bad = {-1, 2, Check.LEAST, Check.MOST};
        for (int b : bad) {
            Check.due("save(" + b + ")", x.save(b), Check.BAD_VALUE);
            Check.due("restore(" + b + ")", x.restore(b), Check.BAD_VALUE);
        }
        Check.due("restore(0)", x.restore(0), Check.NOT_POSSIBLE);
        x.remove(0);
        Check.due("save(0)", x.save(0), 2);
        Check.due("restore(1)", x.restore(1), Check.NOT_POSSIBLE);
        Check.put(x, "d<8");
        x.setConstant(2, 70);
        Check.due("save(1)", x.save(1), 3);
        Check.due("restore(0)", x.restore(0), 2);
        Check.due("constraints()", x.constraints(), 6);
        Check.dueText(x, 2, "c=7@w3");
        Check.dueRange(x, 2, 7, 7);
        Check.dueRange(x, 3, -1000, 1000);
        x.setConstant(2, 9);
        x.remove(1);
        Check.due("restore(0) again", x.restore(0), 2);
        Check.dueText(x, 2, "c=7@w3");
        Check.due("restore(1)", x.restore(1), 3);
        Check.dueText(x, 0, "d<8");
        Check.dueText(x, 2, "c=70@w3");
        Check.dueRange(x, 3, -1000, 8);
        x.restore(0);
        Check.due("overwritten", x.save(1), 2);
        Check.due("restore(1)", x.restore(1), 2);
        Check.due("constraints()", x.constraints(), 6);
    }

    private static void whatStays() {
        LayoutSolver x = new LayoutSolver();
        Check.due("save of nothing", x.save(1), 0);
        Check.put(x, "a<5");
        Check.put(x, "a<4");
        x.undo();
        dueCounts(x, 1, 0, 1, 1);
        Check.due("save is no change", x.save(0), 1);
        dueCounts(x, 1, 0, 1, 1);
        Check.draw(x, 0, 3);
        Check.say(x, "xyz");
        x.restore(5);
        dueCounts(x, 1, 3, 1, 1);
        Check.due("restore of nothing", x.restore(1), 0);
        dueCounts(x, 0, 3, 0, 0, 0);
        Check.due("undo()", x.undo(), Check.NOT_POSSIBLE);
        Check.due("redo()", x.redo(), Check.NOT_POSSIBLE);
        Check.due("draft stays", x.term(1, 0), 13);
        Check.dueRange(x, 0, -1000, 1000);
        Check.due("restore(0)", x.restore(0), 1);
        Check.due("lowest number", Check.put(x, "a<3"), 1);
        Check.due("undo()", x.undo(), 1);
        Check.dueText(x, 0, "a<5");
    }
}

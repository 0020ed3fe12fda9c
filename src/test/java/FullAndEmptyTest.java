import java.util.function.Consumer;

/** Constraints, changes, undone changes, the text, the draft and the slots, when they are empty, full, and full again. */
public final class FullAndEmptyTest {
    public static void main(String[] args) {
        fourteen();
        lowestNumbers();
        numbersAgain();
        twenty();
        whatIsAChange();
        whatIsNoChange();
        whatEmptiesTheUndone();
        whatKeepsTheUndone();
        undoneInTheirOrder();
        restoreEmptiesBoth();
        draft();
        text();
        slots();
        fullSlots();
        Check.end("FullAndEmptyTest");
    }

    private static void fourteen() {
        LayoutSolver x = new LayoutSolver();
        for (int i = 0; i < 14; i++) {
            Check.due("constraints()", x.constraints(), (1 << i) - 1);
            Check.due("count(0)", x.count(0), i);
            Check.due("count(4)", x.count(4), (i + 1) / 2);
            x.term(i % 6, 1);
            Check.due("add", x.add(0, i, i % 2, 1), i);
        }
        Check.due("constraints()", x.constraints(), 16383);
        Check.due("count(0)", x.count(0), 14);
        Check.due("count(4)", x.count(4), 7);
        x.term(0, 1);
        Check.due("add", x.add(0, 0, 3, 1), Check.TOO_MANY);
        Check.due("parse", Check.put(x, "a<0@w"), Check.TOO_MANY);
        Check.due("constraints()", x.constraints(), 16383);
        for (int i = 13; i >= 0; i--) {
            Check.due("remove(" + i + ")", x.remove(i), i);
            Check.due("constraints()", x.constraints(), (1 << i) - 1);
            Check.due("remove(" + i + ") again", x.remove(i), Check.NO_SUCH);
        }
        Check.due("count(4)", x.count(4), 0);
        Check.due("add to none", x.add(0, 0, 3, 1), 0);
    }

    private static LayoutSolver fourteenOfThem() {
        LayoutSolver x = new LayoutSolver();
        for (int i = 0; i < 14; i++) {
            x.term(i % 6, 1);
            x.add(0, i, 0, 1);
        }
        return x;
    }

    private static void lowestNumbers() {
        for (int removed = 0; removed < 14; removed++) {
            LayoutSolver x = fourteenOfThem();
            Check.due("remove", x.remove(removed), 13);
            x.term(0, 2);
            Check.due("add in the place of " + removed, x.add(1, -2, 1, 1), removed);
            Check.dueText(x, removed, "2a=-2@s");
            Check.due("one more", Check.put(x, "a<7"), Check.TOO_MANY);
            x.remove(13);
            x.remove(4);
            x.remove(0);
            Check.due("parse", Check.put(x, "a<7"), 0);
            Check.due("parse", Check.put(x, "b<7"), 4);
            Check.due("parse", Check.put(x, "c<7"), 13);
            Check.due("parse", Check.put(x, "d<7"), Check.TOO_MANY);
        }
    }

    /** A constraint that is added again by undo or redo gets its number again, though lower ones are free. */
    private static void numbersAgain() {
        LayoutSolver x = fourteenOfThem();
        for (int i = 0; i < 14; i++) x.remove(i);
        Check.due("constraints()", x.constraints(), 0);
        for (int i = 13; i >= 0; i--) {
            Check.due("undo()", x.undo(), 1);
            Check.due("constraints()", x.constraints(), 16384 - (1 << i));
            Check.due("constant", x.about(i, 7), 1000 + i);
        }
        for (int i = 13; i >= 8; i--) {
            Check.due("undo() of add", x.undo(), 1);
            Check.due("constraints()", x.constraints(), (1 << i) - 1);
        }
        Check.due("undo() of what was dropped", x.undo(), Check.NOT_POSSIBLE);
        for (int i = 8; i <= 13; i++) {
            Check.due("redo() of add", x.redo(), 1);
            Check.due("constraints()", x.constraints(), (2 << i) - 1);
        }
        LayoutSolver y = Check.layout("a<1", "b<2", "c<3");
        y.undo();
        y.undo();
        y.undo();
        y.redo();
        Check.due("constraints()", y.constraints(), 1);
        y.redo();
        Check.dueText(y, 1, "b<2");
    }

    private static void twenty() {
        for (int changes = 18; changes <= 23; changes++) {
            LayoutSolver x = new LayoutSolver();
            Check.draw(x, 1);
            x.add(0, 0, 0, 1);
            for (int i = 1; i < changes; i++) x.setConstant(0, i);
            int kept = Math.min(20, changes);
            Check.due("count(2)", x.count(2), kept);
            Check.due("count(3)", x.count(3), 0);
            for (int i = 1; i <= kept; i++) {
                Check.due("undo() " + i + " of " + changes, x.undo(), 1);
                Check.due("count(2)", x.count(2), kept - i);
                Check.due("count(3)", x.count(3), i);
                int left = changes - i;
                Check.due("constant", x.about(0, 7), left == 0 ? Check.NO_SUCH : 1000 + left - 1);
                if (left > 0) Check.due("high", x.high(0, 0), left - 1);
            }
            Check.due("undo()", x.undo(), Check.NOT_POSSIBLE);
            Check.due("count(3)", x.count(3), kept);
            for (int i = 1; i <= kept; i++) {
                Check.due("redo() " + i + " of " + changes, x.redo(), 1);
                Check.due("count(2)", x.count(2), i);
                Check.due("count(3)", x.count(3), kept - i);
            }
            Check.due("redo()", x.redo(), Check.NOT_POSSIBLE);
            Check.due("constant", x.about(0, 7), 1000 + changes - 1);
        }
    }

    private static final String[] CHANGES = {"add", "parse", "remove", "setConstant", "setStrength", "the same constant",
        "the same strength"};

    private static void make(LayoutSolver x, String change) {
        switch (change) {
            case "add":
                Check.draw(x, 0, 1);
                Check.due("add", x.add(0, 3, 2, 1), 2);
                break;
            case "parse": Check.due("parse", Check.put(x, "b<3@m"), 2); break;
            case "remove": Check.due("remove", x.remove(1), 1); break;
            case "setConstant": Check.due("setConstant", x.setConstant(0, 8), 1005); break;
            case "setStrength": Check.due("setStrength", x.setStrength(0, 2, 3), 0); break;
            case "the same constant": Check.due("the same constant", x.setConstant(0, 5), 1005); break;
            default: Check.due("the same strength", x.setStrength(1, 3, 4), 3);
        }
    }

    /** Two constraints, a<5 and c=7@w4, and as many changes as are told, at least 4. */
    private static LayoutSolver after(int changes) {
        LayoutSolver x = Check.layout("a<5", "c=7@w2");
        for (int i = 4; i < changes; i++) x.setConstant(0, i);
        x.setStrength(1, 3, 4);
        x.setConstant(0, 5);
        if (changes < 20) x.undo();
        if (changes < 20) x.redo();
        return x;
    }

    private static void whatIsAChange() {
        for (String change : CHANGES) {
            LayoutSolver x = after(4);
            make(x, change);
            Check.due("count(2) after " + change, x.count(2), 5);
            Check.due("undo() of " + change, x.undo(), 1);
            dueAfter(x, change);
            LayoutSolver full = after(24);
            make(full, change);
            Check.due("count(2) after " + change, full.count(2), 20);
            Check.due("undo() of " + change, full.undo(), 1);
            Check.due("count(2) then", full.count(2), 19);
            dueAfter(full, change);
        }
    }

    private static void dueAfter(LayoutSolver x, String change) {
        Check.due("constraints() after " + change, x.constraints(), 3);
        Check.dueText(x, 0, "a<5");
        Check.dueText(x, 1, "c=7@w4");
    }

    private static void whatIsNoChange() {
        LayoutSolver x = after(4);
        Consumer<LayoutSolver> others = FullAndEmptyTest::noChanges;
        others.accept(x);
        Check.due("count(2)", x.count(2), 4);
        Check.due("count(3)", x.count(3), 0);
        Check.due("undo()", x.undo(), 1);
        others.accept(x);
        Check.due("count(2)", x.count(2), 3);
        Check.due("count(3)", x.count(3), 1);
        Check.due("redo()", x.redo(), 1);
        Check.dueText(x, 0, "a<5");
    }

    /** Calls that fail, and calls that change something else. */
    private static void noChanges(LayoutSolver x) {
        Check.draw(x, 0, 0, 3);
        x.add(0, 201, 0, 1);
        x.add(3, 0, 0, 1);
        Check.draw(x);
        x.add(0, 0, 0, 1);
        Check.put(x, "a<201");
        Check.put(x, "a-a<2");
        Check.put(x, "3a+a<2");
        x.wipe();
        x.remove(9);
        x.setConstant(0, 201);
        x.setConstant(2, 0);
        x.setStrength(0, 4, 1);
        x.setStrength(0, 0, 6);
        x.setStrength(2, 0, 1);
        x.save(0);
        x.save(1);
        x.save(2);
        x.restore(2);
    }

    private static void whatEmptiesTheUndone() {
        for (String change : CHANGES) {
            for (int undone = 1; undone <= 2; undone++) {
                LayoutSolver x = after(4);
                x.setConstant(0, 5);
                x.setConstant(0, 5);
                for (int i = 0; i < undone; i++) x.undo();
                Check.due("count(3)", x.count(3), undone);
                make(x, change);
                Check.due("count(3) after " + change, x.count(3), 0);
                Check.due("redo() after " + change, x.redo(), Check.NOT_POSSIBLE);
                Check.due("count(2) after " + change, x.count(2), 7 - undone);
            }
        }
    }

    private static void whatKeepsTheUndone() {
        LayoutSolver x = Check.layout("a<5", "a>5");
        x.setConstant(0, 9);
        x.undo();
        Check.due("conflict", x.setConstant(0, 4), Check.CONFLICT);
        Check.due("conflict", Check.put(x, "a=4"), Check.CONFLICT);
        Check.draw(x, 2);
        Check.due("conflict", x.add(2, 11, 0, 1), Check.CONFLICT);
        Check.due("count(3)", x.count(3), 1);
        Check.due("redo()", x.redo(), 1);
        Check.dueText(x, 0, "a<9");
        x.undo();
        x.undo();
        Check.due("count(3)", x.count(3), 2);
        x.redo();
        Check.due("redo does not empty them", x.count(3), 1);
        Check.due("count(2)", x.count(2), 2);
    }

    private static void undoneInTheirOrder() {
        LayoutSolver x = Check.layout("a<1");
        x.setConstant(0, 2);
        x.setStrength(0, 1, 3);
        x.remove(0);
        String[] states = {"", "a<1", "a<2", "a<2@s3", ""};
        int at = 4;
        int[] steps = {-1, -1, 1, -1, -1, -1, 1, 1, 1, 1, -1, 1};
        for (int step : steps) {
            Check.due(step < 0 ? "undo()" : "redo()", step < 0 ? x.undo() : x.redo(), 1);
            at += step;
            Check.dueText(x, 0, states[at]);
            Check.due("constraints()", x.constraints(), states[at].isEmpty() ? 0 : 1);
            Check.due("high", x.high(0, 0), at == 1 ? 1 : at == 2 || at == 3 ? 2 : 1000);
            Check.due("reach", x.reach(0, 1, 0), at == 1 ? 1 : at == 2 ? 2 : 1000);
        }
    }

    private static void restoreEmptiesBoth() {
        for (int undone = 0; undone <= 20; undone += 5) {
            LayoutSolver x = after(24);
            x.save(0);
            for (int i = 0; i < undone; i++) x.undo();
            Check.due("count(2)", x.count(2), 20 - undone);
            Check.due("count(3)", x.count(3), undone);
            Check.due("restore(2)", x.restore(2), Check.BAD_VALUE);
            Check.due("restore(1)", x.restore(1), Check.NOT_POSSIBLE);
            Check.due("count(2)", x.count(2), 20 - undone);
            Check.due("count(3)", x.count(3), undone);
            Check.due("restore(0)", x.restore(0), 2);
            Check.due("count(2)", x.count(2), 0);
            Check.due("count(3)", x.count(3), 0);
            Check.due("undo()", x.undo(), Check.NOT_POSSIBLE);
            Check.due("redo()", x.redo(), Check.NOT_POSSIBLE);
            dueAfter(x, "restore");
            Check.due("setConstant", x.setConstant(0, 6), 1005);
            Check.due("count(2)", x.count(2), 1);
            Check.due("undo()", x.undo(), 1);
            dueAfter(x, "undo");
        }
    }

    private static void draft() {
        LayoutSolver x = new LayoutSolver();
        for (int v = 0; v < 6; v++) Check.due("term", x.term(v, v % 2 == 0 ? 3 : -3), 10);
        Check.due("parse", Check.put(x, "a+b<5@w"), 0);
        dueDraft(x, "parse");
        x.undo();
        dueDraft(x, "undo");
        x.redo();
        dueDraft(x, "redo");
        x.save(0);
        x.remove(0);
        dueDraft(x, "remove");
        x.restore(0);
        dueDraft(x, "restore");
        x.setConstant(0, 7);
        x.setStrength(0, 0, 1);
        dueDraft(x, "changes");
        x.blockers(0, 0);
        dueDraft(x, "blockers");
        x.add(0, 201, 0, 1);
        dueDraft(x, "add that failed");
        Check.due("add", x.add(0, 200, 0, 1), 1);
        for (int v = 0; v < 6; v++) Check.due("term after add", x.term(v, 0), 10);
        Check.due("add of nothing", x.add(0, 200, 0, 1), Check.NOT_POSSIBLE);
        x.undo();
        for (int v = 0; v < 6; v++) Check.due("undo does not bring the draft back", x.term(v, 0), 10);
        x.term(2, 1);
        x.term(2, 0);
        Check.due("add of what was set and unset", x.add(0, 200, 0, 1), Check.NOT_POSSIBLE);
    }

    private static void dueDraft(LayoutSolver x, String after) {
        for (int v = 0; v < 6; v++) {
            int coefficient = v % 2 == 0 ? 3 : -3;
            Check.due("draft after " + after, x.term(v, coefficient), 10 + coefficient);
        }
    }

    private static void text() {
        LayoutSolver x = new LayoutSolver();
        Check.due("wipe() of nothing", x.wipe(), 0);
        Check.due("fault() of nothing", x.fault(), 0);
        Check.due("parse() of nothing", x.parse(), Check.NOT_POSSIBLE);
        for (int i = 0; i < 40; i++) {
            Check.due("count(1)", x.count(1), i);
            Check.due("say", x.say(i == 0 ? 33 : i == 39 ? 126 : 'a'), i + 1);
        }
        for (int i = 0; i < 3; i++) Check.due("say, full", x.say('a'), Check.TOO_MANY);
        Check.due("count(1)", x.count(1), 40);
        Check.due("fault()", x.fault(), 0);
        Check.due("parse()", x.parse(), Check.NOT_POSSIBLE);
        Check.due("count(1)", x.count(1), 40);
        Check.due("wipe()", x.wipe(), 40);
        Check.due("count(1)", x.count(1), 0);
        Check.due("wipe() again", x.wipe(), 0);
        Check.say(x, "a<5");
        x.save(0);
        x.term(0, 1);
        x.add(0, 3, 0, 1);
        x.undo();
        x.redo();
        x.restore(0);
        Check.due("the text stays", x.count(1), 3);
        Check.due("fault()", x.fault(), Check.NONE);
        Check.due("parse()", x.parse(), 0);
        Check.dueText(x, 0, "a<5");
        Check.due("text after parse()", x.count(1), 0);
        Check.due("fault() after parse()", x.fault(), 0);
        Check.due("say after parse()", x.say('b'), 1);
    }

    private static void slots() {
        LayoutSolver x = new LayoutSolver();
        for (int slot = 0; slot <= 1; slot++) Check.due("nothing was saved", x.restore(slot), Check.NOT_POSSIBLE);
        Check.due("save of no constraint", x.save(0), 0);
        Check.due("restore(1)", x.restore(1), Check.NOT_POSSIBLE);
        Check.put(x, "a<5");
        Check.put(x, "b<5");
        x.remove(0);
        Check.due("save(1)", x.save(1), 1);
        Check.due("restore(0)", x.restore(0), 0);
        Check.due("constraints()", x.constraints(), 0);
        Check.due("restore(0) again", x.restore(0), 0);
        Check.due("restore(1)", x.restore(1), 1);
        Check.due("constraints()", x.constraints(), 2);
        Check.due("high", x.high(1, 0), 5);
        Check.put(x, "c<5");
        x.setConstant(1, 6);
        x.setStrength(1, 2, 2);
        Check.due("restore(1)", x.restore(1), 1);
        Check.dueText(x, 1, "b<5");
        Check.due("constraints()", x.constraints(), 2);
        x.setConstant(1, 7);
        Check.due("save(0) overwrites", x.save(0), 1);
        x.undo();
        Check.dueText(x, 1, "b<5");
        Check.due("restore(0)", x.restore(0), 1);
        Check.dueText(x, 1, "b<7");
        Check.due("restore(1)", x.restore(1), 1);
        Check.dueText(x, 1, "b<5");
        x.remove(1);
        Check.due("save(1) overwrites", x.save(1), 0);
        Check.due("restore(1)", x.restore(1), 0);
        Check.due("high", x.high(1, 0), 1000);
        Check.due("restore(0)", x.restore(0), 1);
    }

    private static void fullSlots() {
        LayoutSolver x = fourteenOfThem();
        Check.due("save(0)", x.save(0), 14);
        for (int i = 0; i < 14; i += 2) x.remove(i);
        Check.due("save(1)", x.save(1), 7);
        Check.due("restore(0)", x.restore(0), 14);
        Check.due("constraints()", x.constraints(), 16383);
        for (int i = 0; i < 14; i++) Check.due("constant", x.about(i, 7), 1000 + i);
        Check.due("parse", Check.put(x, "a<5"), Check.TOO_MANY);
        Check.due("restore(1)", x.restore(1), 7);
        Check.due("constraints()", x.constraints(), 0x2AAA);
        for (int i = 0; i < 14; i++) Check.due("constant", x.about(i, 7), i % 2 == 0 ? Check.NO_SUCH : 1000 + i);
        Check.due("parse", Check.put(x, "a<5"), 0);
    }
}

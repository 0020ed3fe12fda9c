import java.util.HashMap;
import java.util.Map;
import java.util.function.Consumer;
import java.util.function.ToLongFunction;

/**
 * Two objects with the same past, of which one gets a call more that must not show. Each view asks for a part of what
 * can be asked, of objects of its own (for some questions change what they ask for), and stays below 512 calls.
 */
final class Twins {
    private static final int LAYOUT = 0, SOLUTIONS = 1, REACH = 2, WHAT_IFS = 3, DRAFT = 4, TEXT = 5, NEXT = 6;
    private static final int UNDO = 7, UNDO_STRENGTHS = 8, UNDO_WEIGHTS = 9, REDO = 10, SLOT_0 = 11, SLOT_1 = 12;
    private static final int VIEWS = 13;

    private final Consumer<LayoutSolver> past;
    private final Map<Integer, String> views = new HashMap<>();

    Twins(Consumer<LayoutSolver> past) {
        this.past = past;
    }

    /** The call answers this, and nothing is different behind it. */
    void due(String call, ToLongFunction<LayoutSolver> made, long want) {
        for (int view = 0; view < VIEWS; view++) {
            LayoutSolver x = new LayoutSolver();
            past.accept(x);
            Check.due(call, made.applyAsLong(x), want);
            dueView(call, view, x);
        }
    }

    /** The same for a call whose answer is told elsewhere. */
    void unchanged(String call, ToLongFunction<LayoutSolver> made) {
        for (int view = 0; view < VIEWS; view++) {
            LayoutSolver x = new LayoutSolver();
            past.accept(x);
            made.applyAsLong(x);
            dueView(call, view, x);
        }
    }

    private void dueView(String call, int view, LayoutSolver x) {
        if (!views.containsKey(view)) {
            LayoutSolver y = new LayoutSolver();
            past.accept(y);
            views.put(view, seen(y, view));
        }
        String got = seen(x, view);
        String want = views.get(view);
        Check.due("after " + call + " view " + view + " was " + want + ", is " + got + ": the same",
                got.equals(want) ? 1 : 0, 1);
    }

    private static String seen(LayoutSolver x, int view) {
        StringBuilder s = new StringBuilder();
        switch (view) {
            case LAYOUT: layout(x, s); break;
            case SOLUTIONS: solutions(x, s); break;
            case REACH: reach(x, s); break;
            case WHAT_IFS: whatIfs(x, s); break;
            case DRAFT: draft(x, s); break;
            case TEXT: text(x, s); break;
            case NEXT: next(x, s); break;
            case UNDO: undone(x, s, 7); break;
            case UNDO_STRENGTHS: undone(x, s, 8); break;
            case UNDO_WEIGHTS: undone(x, s, 9); break;
            case REDO: redone(x, s); break;
            case SLOT_0: slot(x, s, 0); break;
            default: slot(x, s, 1);
        }
        return s.toString();
    }

    private static void tell(StringBuilder s, long answer) {
        s.append(answer).append(' ');
    }

    private static void layout(LayoutSolver x, StringBuilder s) {
        tell(s, x.constraints());
        for (int what = 0; what <= 4; what++) tell(s, x.count(what));
        for (int i = 0; i < 14; i++) {
            for (int what = 0; what <= 9; what++) tell(s, x.about(i, what));
            tell(s, x.spell(i, -1));
        }
    }

    private static void solutions(LayoutSolver x, StringBuilder s) {
        for (int part = 0; part <= 1; part++) {
            for (int strength = 1; strength <= 3; strength++) tell(s, x.cost(strength, part));
            for (int i = 0; i < 6; i++) {
                tell(s, x.low(i, part));
                tell(s, x.high(i, part));
            }
        }
        tell(s, x.ambiguous());
        for (int i = 0; i < 14; i++) tell(s, x.status(i));
    }

    private static void reach(LayoutSolver x, StringBuilder s) {
        for (int side = 0; side <= 1; side++) {
            for (int part = 0; part <= 1; part++) {
                for (int i = 0; i < 6; i++) tell(s, x.reach(i, side, part));
                for (int i = 0; i < 14; i++) tell(s, x.value(i, side, part));
            }
        }
        for (int i = 0; i < 6; i++) tell(s, x.connected(i));
    }

    private static void whatIfs(LayoutSolver x, StringBuilder s) {
        tell(s, x.burdens());
        for (int i = 0; i < 14; i++) {
            tell(s, x.play(i, 0));
            tell(s, x.play(i, 1));
        }
        for (int i = 0; i < 6; i++) {
            tell(s, x.best(i, -8, 7));
            tell(s, x.force(i, 3, 1, 0));
            tell(s, x.force(i, 3, 3, 0));
        }
    }

    private static void draft(LayoutSolver x, StringBuilder s) {
        for (int relation = 0; relation <= 2; relation++) {
            tell(s, x.blockers(relation, -200));
            tell(s, x.blockers(relation, 200));
        }
        for (int i = 0; i < 6; i++) tell(s, x.term(i, 0));
    }

    /** The text cannot be read; so it is gone on with by what some texts go on with. */
    private static void text(LayoutSolver x, StringBuilder s) {
        String more = "0@w3";
        tell(s, x.fault());
        for (int i = 0; i < more.length(); i++) {
            tell(s, x.say(more.charAt(i)));
            tell(s, x.fault());
        }
        tell(s, x.count(1));
        tell(s, x.wipe());
        tell(s, x.wipe());
    }

    /** What a text and the draft make when they are added. */
    private static void next(LayoutSolver x, StringBuilder s) {
        tell(s, x.remove(13));
        tell(s, x.parse());
        tell(s, x.remove(0));
        tell(s, x.add(0, 9, 3, 2));
        layout(x, s);
    }

    private static void undone(LayoutSolver x, StringBuilder s, int what) {
        for (int round = 0; round <= 20; round++) {
            tell(s, x.undo());
            tell(s, x.constraints());
            for (int i = 0; i < 14; i++) tell(s, x.about(i, what));
        }
    }

    private static void redone(LayoutSolver x, StringBuilder s) {
        for (int round = 0; round <= 20; round++) {
            tell(s, x.redo());
            tell(s, x.constraints());
            for (int i = 0; i < 4; i++) {
                tell(s, x.about(i, 7));
                tell(s, x.about(i, 8));
                tell(s, x.about(i, 9));
            }
        }
    }

    private static void slot(LayoutSolver x, StringBuilder s, int slot) {
        tell(s, x.restore(slot));
        layout(x, s);
    }
}

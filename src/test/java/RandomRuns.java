import java.util.Random;

/** Runs of random calls, each answered by LayoutSolver and by Reference. */
public final class RandomRuns {
    private final LayoutSolver solver = new LayoutSolver();
    private final Reference reference = new Reference();
    private final StringBuilder calls = new StringBuilder();
    private final Random random;
    private final int variables;
    private final int most;
    private int wrong = 0;

    private RandomRuns(long seed, int variables, int most) {
        random = new Random(seed);
        this.variables = variables;
        this.most = most;
    }

    public static void main(String[] args) {
        int scale = args.length > 0 ? Integer.parseInt(args[0]) : 1;
        long first = args.length > 1 ? Long.parseLong(args[1]) : 1;
        int wrong = 0;
        for (long seed = first; seed < first + 60 * scale; seed++) {
            wrong += new RandomRuns(seed, 1, 10).run(400);
            wrong += new RandomRuns(seed, 2, 10).run(400);
            wrong += new RandomRuns(seed, 3, 6).run(120);
        }
        for (long seed = first; seed < first + 5 * scale; seed++) {
            wrong += new RandomRuns(seed, 4, 6).run(60);
            wrong += new RandomRuns(seed, 6, 4).run(40);
        }
        System.out.println(wrong == 0 ? "RandomRuns: all answers are as due" : "RandomRuns: " + wrong + " wrong");
        System.exit(wrong == 0 ? 0 : 1);
    }

    private int run(int length) {
        for (int i = 0; i < length && wrong == 0; i++) step();
        return wrong;
    }

    private void step() {
        int kind = random.nextInt(100);
        if (kind < 30) build();
        else if (kind < 45) change();
        else if (kind < 55) textOrUndo();
        else if (kind < 85) ask();
        else whatIf();
    }

    private int variable() {
        return random.nextInt(60) == 0 ? pick(-1, 6, 99) : random.nextInt(variables);
    }

    private int constraint() {
        if (random.nextInt(30) == 0) return pick(-1, 14, Integer.MIN_VALUE, Integer.MAX_VALUE);
        int present = reference.constraints();
        int any = random.nextInt(14);
        for (int i = 0; i < 14; i++) {
            if ((present >> ((any + i) % 14) & 1) != 0) return (any + i) % 14;
        }
        return any;
    }

    private int constant() {
        int kind = random.nextInt(20);
        if (kind == 0) return pick(-201, 201, Integer.MIN_VALUE, Integer.MAX_VALUE);
        if (kind == 1) return pick(-200, 200);
        return kind < 12 ? random.nextInt(21) - 10 : random.nextInt(401) - 200;
    }

    private int strength() {
        return random.nextInt(40) == 0 ? pick(-1, 4) : random.nextInt(4);
    }

    private int weight() {
        return random.nextInt(40) == 0 ? pick(0, 6) : 1 + random.nextInt(5);
    }

    private int relation() {
        return random.nextInt(40) == 0 ? pick(-1, 3) : random.nextInt(3);
    }

    private int two() {
        return random.nextInt(40) == 0 ? pick(-1, 2) : random.nextInt(2);
    }

    private int pick(int... from) {
        return from[random.nextInt(from.length)];
    }

    private void draw(int terms) {
        for (int i = 0; i < terms; i++) {
            int v = variable();
            int c = random.nextInt(40) == 0 ? pick(-4, 4) : random.nextInt(7) - 3;
            due("term(" + v + "," + c + ")", solver.term(v, c), reference.term(v, c));
        }
    }

    private void build() {
        if (reference.count(0) >= most) {
            int c = constraint();
            due("remove(" + c + ")", solver.remove(c), reference.remove(c));
            return;
        }
        draw(1 + random.nextInt(3));
        int r = relation(), k = constant(), s = strength(), w = weight();
        due("add(" + r + "," + k + "," + s + "," + w + ")", solver.add(r, k, s, w), reference.add(r, k, s, w));
    }

    private void change() {
        int c = constraint(), k = constant(), s = strength(), w = weight();
        switch (random.nextInt(5)) {
            case 0: due("remove(" + c + ")", solver.remove(c), reference.remove(c)); break;
            case 1:
            case 2: due("setConstant(" + c + "," + k + ")", solver.setConstant(c, k), reference.setConstant(c, k)); break;
            default: due("setStrength(" + c + "," + s + "," + w + ")", solver.setStrength(c, s, w), reference.setStrength(c, s, w));
        }
    }

    private void textOrUndo() {
        switch (random.nextInt(6)) {
            case 0: speak(); break;
            case 1:
            case 2: due("undo()", solver.undo(), reference.undo()); break;
            case 3: due("redo()", solver.redo(), reference.redo()); break;
            case 4:
                int slot = two();
                due("save(" + slot + ")", solver.save(slot), reference.save(slot));
                break;
            default:
                if (random.nextInt(3) == 0) {
                    int from = two();
                    due("restore(" + from + ")", solver.restore(from), reference.restore(from));
                }
        }
    }

    private void speak() {
        StringBuilder said = new StringBuilder();
        int terms = 1 + random.nextInt(3);
        for (int i = 0; i < terms; i++) {
            if (i > 0 || random.nextInt(3) == 0) said.append(i > 0 ? "+-".charAt(random.nextInt(2)) : '-');
            said.append(new String[] {"", "", "2", "3"}[random.nextInt(4)]).append((char) ('a' + random.nextInt(variables)));
        }
        said.append("<=>".charAt(random.nextInt(3))).append(random.nextInt(450) - 225);
        if (random.nextBoolean()) said.append('@').append("rsmw".charAt(random.nextInt(4)));
        if (random.nextBoolean()) said.append(random.nextInt(7));
        while (random.nextInt(4) == 0) said.setCharAt(random.nextInt(said.length()), (char) (33 + random.nextInt(94)));
        for (int i = 0; i < said.length(); i++) {
            due("say(" + (int) said.charAt(i) + ")", solver.say(said.charAt(i)), reference.say(said.charAt(i)));
            if (random.nextInt(3) == 0) due("fault()", solver.fault(), reference.fault());
        }
        due("fault()", solver.fault(), reference.fault());
        if (reference.count(0) < most) due("parse()", solver.parse(), reference.parse());
        if (random.nextInt(4) != 0) due("wipe()", solver.wipe(), reference.wipe());
    }

    private void ask() {
        int v = variable(), c = constraint(), part = two(), side = two(), s = strength();
        switch (random.nextInt(9)) {
            case 0: due("cost(" + s + "," + part + ")", solver.cost(s, part), reference.cost(s, part)); break;
            case 1: due("low(" + v + "," + part + ")", solver.low(v, part), reference.low(v, part)); break;
            case 2: due("high(" + v + "," + part + ")", solver.high(v, part), reference.high(v, part)); break;
            case 3: due("ambiguous()", solver.ambiguous(), reference.ambiguous()); break;
            case 4: due("value(" + c + "," + side + "," + part + ")", solver.value(c, side, part), reference.value(c, side, part)); break;
            case 5: due("status(" + c + ")", solver.status(c), reference.status(c)); break;
            case 6: due("reach(" + v + "," + side + "," + part + ")", solver.reach(v, side, part), reference.reach(v, side, part)); break;
            case 7: due("connected(" + v + ")", solver.connected(v), reference.connected(v)); break;
            default: look(c);
        }
    }

    private void look(int c) {
        int what = random.nextInt(14) - 2;
        due("about(" + c + "," + what + ")", solver.about(c, what), reference.about(c, what));
        due("constraints()", solver.constraints(), reference.constraints());
        for (int i = -1; i <= 5; i++) due("count(" + i + ")", solver.count(i), reference.count(i));
        for (int i = -2; i <= 27; i++) due("spell(" + c + "," + i + ")", solver.spell(c, i), reference.spell(c, i));
    }

    private void whatIf() {
        int v = variable(), c = constraint(), part = two(), side = two(), s = strength();
        switch (random.nextInt(6)) {
            case 0:
                draw(random.nextInt(3));
                int r = relation(), k = constant();
                due("blockers(" + r + "," + k + ")", solver.blockers(r, k), reference.blockers(r, k));
                break;
            case 1:
            case 2:
                int n = random.nextInt(10) == 0 ? pick(-1001, -1000, 1000, 1001) : random.nextInt(101) - 50;
                due("force(" + v + "," + n + "," + s + "," + part + ")", solver.force(v, n, s, part), reference.force(v, n, s, part));
                break;
            case 3:
                int from = random.nextInt(10) == 0 ? pick(-1001, -1000, 990, 1000, 1001) : random.nextInt(61) - 40;
                int to = from + (random.nextInt(10) == 0 ? pick(-1, 0, 15, 16) : random.nextInt(16));
                due("best(" + v + "," + from + "," + to + ")", solver.best(v, from, to), reference.best(v, from, to));
                break;
            case 4: due("burdens()", solver.burdens(), reference.burdens()); break;
            default: due("play(" + c + "," + side + ")", solver.play(c, side), reference.play(c, side));
        }
    }

    private void due(String call, long got, long want) {
        calls.append(call).append(" = ").append(want).append("; ");
        if (got != want) {
            wrong++;
            System.out.println(calls);
            System.out.println(call + " answered " + got + ", due is " + want);
        }
    }
}

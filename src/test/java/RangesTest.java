/** Of each argument the last value that is allowed and the first that is not, on both sides, and what the former do. */
public final class RangesTest {
    private static final int[] NOT_TWO = {-1, 2};

    public static void main(String[] args) {
        coefficients();
        newConstraints();
        constants();
        strengths();
        properties();
        parts();
        sides();
        trialConstraints();
        forcedNumbers();
        rangesOfIntegers();
        whatIsCounted();
        slots();
        Check.end("RangesTest");
    }

    private static void coefficients() {
        LayoutSolver x = new LayoutSolver();
        int before = 0;
        for (int k = -5; k <= 5; k++) {
            for (int v = -1; v <= 6; v++) {
                boolean isVariable = v >= 0 && v <= 5;
                boolean isAllowed = k >= -3 && k <= 3;
                int want = !isVariable ? Check.NO_SUCH : !isAllowed ? Check.BAD_VALUE : before + 10;
                Check.due("term(" + v + "," + k + ")", x.term(v, k), want);
            }
            if (k >= -3 && k <= 3) before = k;
        }
        Check.due("add", x.add(0, 0, 0, 1), 0);
        for (int v = 0; v < 6; v++) Check.due("about", x.about(0, v), 13);
        for (int v = 0; v < 6; v++) {
            for (int k = -3; k <= 3; k += 6) {
                LayoutSolver one = new LayoutSolver();
                one.term(v, k);
                Check.due("one coefficient is enough", one.add(1, 3, 0, 1), 0);
                Check.dueRange(one, v, 3 / k, 3 / k);
            }
        }
    }

    private static void newConstraints() {
        for (int r = -1; r <= 3; r++) dueAdd(r, 0, 0, 1, r >= 0 && r <= 2);
        for (int k = -202; k <= 202; k++) dueAdd(Math.floorMod(k, 3), k, Math.floorMod(k, 4), 1, k >= -200 && k <= 200);
        for (int s = -1; s <= 4; s++) dueAdd(1, 5, s, 5, s >= 0 && s <= 3);
        for (int s = 0; s <= 3; s++) {
            for (int w = -1; w <= 6; w++) dueAdd(2, -5, s, w, w >= 1 && w <= 5);
        }
    }

    private static void dueAdd(int relation, int constant, int strength, int weight, boolean isAllowed) {
        LayoutSolver x = new LayoutSolver();
        x.term(4, 2);
        String call = "add(" + relation + "," + constant + "," + strength + "," + weight + ")";
        Check.due(call, x.add(relation, constant, strength, weight), isAllowed ? 0 : Check.BAD_VALUE);
        Check.due(call + " then constraints()", x.constraints(), isAllowed ? 1 : 0);
        Check.due(call + " then the draft", x.term(4, 0), isAllowed ? 10 : 12);
        if (isAllowed) {
            int[] want = {10, 10, 10, 10, 12, 10, relation, constant + 1000, strength, weight};
            for (int what = 0; what <= 9; what++) Check.due(call + " about " + what, x.about(0, what), want[what]);
            long low = relation == 0 ? -2000 : constant;
            long high = relation == 2 ? 2000 : constant;
            Check.due(call + " low", x.low(4, 0) * 2, low * x.low(4, 1));
            Check.due(call + " high", x.high(4, 0) * 2, high * x.high(4, 1));
        }
    }

    private static void constants() {
        int[] ends = {-200, 200};
        for (int strength = 0; strength <= 3; strength++) {
            for (int relation = 0; relation <= 2; relation++) {
                LayoutSolver x = new LayoutSolver();
                x.term(0, -1);
                x.add(relation, 0, strength, 2);
                int before = 0;
                for (int end : ends) {
                    int beyond = end + Integer.signum(end);
                    Check.due("setConstant(0," + beyond + ")", x.setConstant(0, beyond), Check.BAD_VALUE);
                    Check.due("setConstant(0," + end + ")", x.setConstant(0, end), before + 1000);
                    before = end;
                    Check.due("setConstant(0," + beyond + ")", x.setConstant(0, beyond), Check.BAD_VALUE);
                    Check.due("about", x.about(0, 7), end + 1000);
                    Check.dueRange(x, 0, relation == 2 ? -1000 : -end, relation == 0 ? 1000 : -end);
                }
            }
        }
    }

    private static void strengths() {
        LayoutSolver x = Check.layout("a=10", "a=0@w3");
        int before = 3;
        int count = 2;
        for (int s = -1; s <= 4; s++) {
            for (int w = -1; w <= 6; w++) {
                boolean isAllowed = s >= 0 && s <= 3 && w >= 1 && w <= 5;
                boolean isConflict = isAllowed && s == 0;
                int want = !isAllowed ? Check.BAD_VALUE : isConflict ? Check.CONFLICT : before;
                Check.due("setStrength(1," + s + "," + w + ")", x.setStrength(1, s, w), want);
                if (isAllowed && !isConflict) {
                    before = s;
                    count = Math.min(20, count + 1);
                    Check.due("cost", x.cost(s, 0), 10 * w);
                    Check.due("weight", x.about(1, 9), w);
                    Check.due("strength", x.about(1, 8), s);
                }
                Check.due("count(2)", x.count(2), count);
            }
        }
    }

    private static void properties() {
        LayoutSolver x = Check.layout("-3a+3b-2c+2d-e+f=-200@w5", "3a-3b<200");
        int[] first = {7, 13, 8, 12, 9, 11, 1, 800, 3, 5};
        int[] second = {13, 7, 10, 10, 10, 10, 0, 1200, 0, 1};
        for (int what = -2; what <= 11; what++) {
            boolean isAllowed = what >= 0 && what <= 9;
            Check.due("about(0," + what + ")", x.about(0, what), isAllowed ? first[what] : Check.BAD_VALUE);
            Check.due("about(1," + what + ")", x.about(1, what), isAllowed ? second[what] : Check.BAD_VALUE);
            Check.due("about(2," + what + ")", x.about(2, what), Check.NO_SUCH);
        }
    }

    private static void parts() {
        LayoutSolver x = Check.layout("2a=7", "a=0@s", "a=1@m", "a=2@w");
        long bad = Check.GONE + Check.BAD_VALUE;
        for (int s = -1; s <= 4; s++) {
            for (int part = -1; part <= 2; part++) {
                boolean isAllowed = s >= 1 && s <= 3 && part >= 0 && part <= 1;
                Check.due("cost(" + s + "," + part + ")", x.cost(s, part), !isAllowed ? bad : part == 1 ? 2 : 9 - 2 * s);
                Check.due("force(1,0," + s + "," + part + ")", x.force(1, 0, s, part),
                        !isAllowed ? bad : part == 1 ? 2 : 9 - 2 * s);
            }
        }
        for (int v = -1; v <= 6; v++) {
            for (int part = -1; part <= 2; part++) {
                boolean isVariable = v >= 0 && v <= 5;
                long error = !isVariable ? Check.GONE + Check.NO_SUCH : part < 0 || part > 1 ? bad : 0;
                Check.due("low(" + v + "," + part + ")", x.low(v, part), error != 0 ? error : part(v, -1000, part));
                Check.due("high(" + v + "," + part + ")", x.high(v, part), error != 0 ? error : part(v, 1000, part));
            }
        }
    }

    private static long part(int variable, int limit, int part) {
        return variable == 0 ? (part == 0 ? 7 : 2) : part == 0 ? limit : 1;
    }

    private static void sides() {
        LayoutSolver x = Check.layout("2a+b=7", "b>3", "b<4");
        long[][] values = {{7, 1}, {3, 1}, {3, 1}, {7, 1}, {4, 1}, {4, 1}};
        long[][] reaches = {{3, 2}, {3, 1}, {2, 1}, {4, 1}};
        long bad = Check.GONE + Check.BAD_VALUE;
        for (int side = -1; side <= 2; side++) {
            for (int part = -1; part <= 2; part++) {
                boolean isAllowed = side >= 0 && side <= 1 && part >= 0 && part <= 1;
                String arguments = "," + side + "," + part + ")";
                for (int c = 0; c <= 2; c++) {
                    Check.due("value(" + c + arguments, x.value(c, side, part), isAllowed ? values[3 * side + c][part] : bad);
                }
                for (int v = 0; v <= 1; v++) {
                    Check.due("reach(" + v + arguments, x.reach(v, side, part), isAllowed ? reaches[2 * side + v][part] : bad);
                }
                Check.due("value(3" + arguments, x.value(3, side, part), Check.GONE + Check.NO_SUCH);
                Check.due("reach(6" + arguments, x.reach(6, side, part), Check.GONE + Check.NO_SUCH);
            }
            Check.due("play(1," + side + ")", x.play(1, side), side == 0 ? 973 : side == 1 ? 1004 : Check.BAD_VALUE);
            Check.due("play(3," + side + ")", x.play(3, side), Check.NO_SUCH);
        }
    }

    private static void trialConstraints() {
        for (int r = -1; r <= 3; r++) {
            LayoutSolver x = Check.layout("a=0");
            x.term(0, 1);
            for (int k = -202; k <= 202; k++) {
                boolean isAllowed = r >= 0 && r <= 2 && k >= -200 && k <= 200;
                boolean isMet = r == 0 ? k >= 0 : r == 2 ? k <= 0 : k == 0;
                Check.due("blockers(" + r + "," + k + ")", x.blockers(r, k), !isAllowed ? Check.BAD_VALUE : isMet ? Check.NONE : 1);
            }
        }
    }

    private static void forcedNumbers() {
        LayoutSolver x = Check.layout("a=0@s", "b=200@w5", "c=-200@m5");
        Check.due("force(0,-1001)", x.force(0, -1001, 1, 0), Check.GONE + Check.BAD_VALUE);
        Check.due("force(0,-1000)", x.force(0, -1000, 1, 0), 1000);
        Check.due("force(0,1000)", x.force(0, 1000, 1, 0), 1000);
        Check.due("force(0,1001)", x.force(0, 1001, 1, 0), Check.GONE + Check.BAD_VALUE);
        Check.due("force(1,-1000)", x.force(1, -1000, 3, 0), 6000);
        Check.due("force(2,1000)", x.force(2, 1000, 2, 0), 6000);
        Check.due("force(2,1000)", x.force(2, 1000, 1, 0), 0);
        Check.due("force(2,1000)", x.force(2, 1000, 1, 1), 1);
    }

    private static void rangesOfIntegers() {
        LayoutSolver x = new LayoutSolver();
        int[] froms = {-1002, -1001, -1000, -999, -1, 0, 984, 985, 986, 999, 1000, 1001};
        for (int from : froms) {
            for (int more = -2; more <= 17; more++) {
                boolean isAllowed = from >= -1000 && more >= 0 && more <= 15 && from + more <= 1000;
                Check.due("best(3," + from + "," + (from + more) + ")", x.best(3, from, from + more),
                        isAllowed ? from + 10000 : Check.BAD_VALUE);
            }
        }
        LayoutSolver last = Check.layout("d=200@s", "e=-200@m", "f>200");
        Check.due("the last of sixteen", last.best(3, 185, 200), 10200);
        Check.due("the first of sixteen", last.best(3, 200, 215), 10200);
        Check.due("beyond the last", last.best(3, 184, 199), 10199);
        Check.due("the least of all", last.best(4, -1000, -985), 9015);
        Check.due("the greatest of all", last.best(4, 985, 1000), 10985);
        Check.due("the last one alone is feasible", last.best(5, 185, 200), 10200);
        Check.due("no one is feasible", last.best(5, 184, 199), Check.NONE);
        Check.due("one, feasible", last.best(5, 1000, 1000), 11000);
        Check.due("one, not feasible", last.best(5, -1000, -1000), Check.NONE);
    }

    private static void whatIsCounted() {
        LayoutSolver x = Check.layout("a<5", "b<5@w", "c<5");
        Check.say(x, "a<1=");
        x.undo();
        int[] want = {Check.BAD_VALUE, 2, 4, 2, 1, 1, Check.BAD_VALUE};
        for (int what = -1; what <= 5; what++) Check.due("count(" + what + ")", x.count(what), want[what + 1]);
    }

    private static void slots() {
        LayoutSolver x = Check.layout("a<5");
        for (int slot : NOT_TWO) {
            Check.due("save(" + slot + ")", x.save(slot), Check.BAD_VALUE);
            Check.due("restore(" + slot + ")", x.restore(slot), Check.BAD_VALUE);
        }
        Check.due("save(0)", x.save(0), 1);
        Check.put(x, "a<6");
        Check.due("save(1)", x.save(1), 2);
        for (int slot : NOT_TWO) Check.due("restore(" + slot + ")", x.restore(slot), Check.BAD_VALUE);
        Check.due("restore(0)", x.restore(0), 1);
        Check.due("restore(1)", x.restore(1), 2);
    }
}

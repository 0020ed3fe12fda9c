/** Where points end, where a conflict begins, and how fractions and sets are told. */
public final class LimitsTest {
    public static void main(String[] args) {
        limitsOfVariables();
        conflictAtTheLimits();
        conflictBetweenConstraints();
        violations();
        strengthsInTheirOrder();
        lowestTerms();
        sets();
        statusAtTheConstant();
        connectedVariables();
        blockersInTheirOrder();
        forcedToTheLimits();
        bestOfSeveral();
        burdens();
        play();
        playToTheEnds();
        Check.end("LimitsTest");
    }

    private static void limitsOfVariables() {
        for (int v = 0; v < 6; v++) {
            LayoutSolver x = new LayoutSolver();
            Check.dueRange(x, v, -1000, 1000);
            Check.due("reach", x.reach(v, 0, 0), x.reach(v, 0, 1), -1000, 1);
            Check.due("reach", x.reach(v, 1, 0), x.reach(v, 1, 1), 1000, 1);
            Check.due("best", x.best(v, -1000, -1000), 9000);
            Check.due("best", x.best(v, 1000, 1000), 11000);
        }
        LayoutSolver x = Check.layout("3a+3b+3c+3d+3e+3f>-200", "3a-3b+3c-3d+3e-3f<200");
        dueValue(x, 0, -200, 18000);
        dueValue(x, 1, -18000, 200);
        LayoutSolver none = Check.layout("a-a+2f<200");
        dueValue(none, 0, -2000, 200);
        x = Check.layout("3a+3b+3c+3d+3e+3f>-200@w");
        dueValue(x, 0, -200, 18000);
        x = Check.layout("a-b=200@s", "b-c=200@s", "c-d=200@s");
        Check.dueRange(x, 0, -400, 1000);
        Check.dueRange(x, 3, -1000, 400);
        x = Check.layout("a=200", "b-3a=200", "c-b=200");
        Check.dueRange(x, 1, 800, 800);
        Check.dueRange(x, 2, 1000, 1000);
        Check.due("cost", x.cost(1, 0), 0);
        Check.due("c=1001", x.setConstant(0, 201), Check.BAD_VALUE);
        Check.due("ambiguous()", x.ambiguous(), 8 + 16 + 32);
    }

    private static void dueValue(LayoutSolver x, int constraint, long low, long high) {
        Check.due("value(" + constraint + ",0)", x.value(constraint, 0, 0), x.value(constraint, 0, 1), low, 1);
        Check.due("value(" + constraint + ",1)", x.value(constraint, 1, 0), x.value(constraint, 1, 1), high, 1);
    }

    /** c = 3 * 200 + 2 * 200 = 1000 is a point; c = 1001 is not; and so on the other side. */
    private static void conflictAtTheLimits() {
        for (int sign = -1; sign <= 1; sign += 2) {
            String by = sign < 0 ? "=-200" : "=200";
            LayoutSolver x = Check.layout("a" + by, "b" + by);
            Check.draw(x, -3, -2, 1);
            Check.due("c = 1001", x.add(1, sign, 0, 1), Check.CONFLICT);
            Check.due("blockers of c = 1001", x.blockers(1, sign), 3);
            Check.due("blockers of c = 1000", x.blockers(1, 0), Check.NONE);
            Check.due("c beyond 1000", x.blockers(sign < 0 ? 0 : 2, sign), 3);
            Check.due("c beyond 999", x.blockers(sign < 0 ? 0 : 2, 0), Check.NONE);
            Check.due("c = 1001, strong", x.add(1, sign, 1, 5), 2);
            Check.due("cost", x.cost(1, 0), 5);
            Check.dueRange(x, 2, 1000 * sign, 1000 * sign);
            Check.due("required", x.setStrength(2, 0, 5), Check.CONFLICT);
            Check.due("c = 1000", x.setConstant(2, 0), 1000 + sign);
            Check.due("required", x.setStrength(2, 0, 5), 1);
            Check.due("c = 1001", x.setConstant(2, sign), Check.CONFLICT);
            Check.due("c = 999", x.setConstant(2, -sign), 1000);
            Check.dueRange(x, 2, 999 * sign, 999 * sign);
            Check.due("play", x.play(2, sign < 0 ? 0 : 1), 1000);
            Check.due("play", x.play(2, sign < 0 ? 1 : 0), 1000 - 31 * sign);
        }
    }

    private static void conflictBetweenConstraints() {
        String[] first = {"a<5", "a<5", "a=5", "a=5", "a=5", "a>5", "a>5", "3a<16"};
        String[] touches = {"a>5", "a=5", "a<5", "a=5", "a>5", "a<5", "a=5", "3a>16"};
        String[] apart = {"a>6", "a=6", "a<4", "a=4", "a>6", "a<4", "a=4", "3a>17"};
        for (int i = 0; i < first.length; i++) {
            LayoutSolver x = Check.layout(first[i]);
            Check.due(first[i] + " and " + apart[i], Check.put(x, apart[i]), Check.CONFLICT);
            Check.due(first[i] + " and weak " + apart[i], Check.put(x, apart[i] + "@w"), 1);
            Check.due(first[i] + " and strong " + apart[i], Check.put(x, apart[i] + "@s5"), 2);
            Check.due("required", x.setStrength(1, 0, 1), Check.CONFLICT);
            Check.due(first[i] + " and " + touches[i], Check.put(x, touches[i]), 3);
            Check.due("one point is left", x.ambiguous(), 62);
            Check.due("reach", x.reach(0, 0, 0), x.reach(0, 1, 0));
        }
        LayoutSolver x = Check.layout("a+b<10", "a-b<2", "b>4");
        Check.due("a > 6.5", Check.put(x, "2a>13"), Check.CONFLICT);
        Check.due("a > 6", Check.put(x, "2a>12"), 3);
        Check.dueRange(x, 0, 6, 6);
        Check.dueRange(x, 1, 4, 4);
    }

    private static void violations() {
        int[] at = {4, 5, 6};
        int[][] want = {{0, 0, 3}, {3, 0, 3}, {3, 0, 0}};
        String[] relations = {"<", "=", ">"};
        for (int r = 0; r <= 2; r++) {
            for (int i = 0; i <= 2; i++) {
                LayoutSolver x = Check.layout("a=" + at[i], "a" + relations[r] + "5@m3");
                Check.due("cost of a" + relations[r] + "5 at " + at[i], x.cost(2, 0), want[r][i]);
                Check.due("status", x.status(1), want[r][i] == 0 ? 0 : 1);
                Check.due("burdens()", x.burdens(), want[r][i] == 0 ? 0 : 3);
                x.setStrength(1, 2, 5);
                Check.due("cost with weight 5", x.cost(2, 0), want[r][i] / 3 * 5);
                x.setStrength(1, 2, 1);
                Check.due("cost with weight 1", x.cost(2, 0), want[r][i] / 3);
            }
        }
        LayoutSolver sum = Check.layout("a=10", "a<9@w", "a=8@w2", "a>13@w5", "-a=-4@w3", "a<9@s", "a>10@m");
        Check.due("sum", sum.cost(3, 0), 1 + 4 + 15 + 18);
        Check.due("sum", sum.cost(1, 0), 1);
        Check.due("sum", sum.cost(2, 0), 0);
    }

    /** The least advantage of a strength is more than the greatest of those behind it. */
    private static void strengthsInTheirOrder() {
        LayoutSolver x = Check.layout("3a<-1@s", "a>200@m5", "b+c-3a=200@w5");
        Check.due("high", x.high(0, 0), x.high(0, 1), -1, 3);
        Check.due("cost", x.cost(1, 0), 0);
        Check.due("cost", x.cost(2, 0), x.cost(2, 1), 3005, 3);
        Check.due("cost", x.cost(3, 0), 0);
        x = Check.layout("a<0@m", "a>200@w5", "a>100@w5", "a>0@w5");
        Check.dueRange(x, 0, 0, 0);
        x.setStrength(0, 3, 5);
        Check.dueRange(x, 0, 100, 200);
        x.setStrength(0, 3, 4);
        Check.dueRange(x, 0, 200, 200);
        x.setStrength(1, 3, 3);
        Check.dueRange(x, 0, 100, 100);
        x.setStrength(0, 1, 1);
        Check.dueRange(x, 0, 0, 0);
    }

    private static void lowestTerms() {
        LayoutSolver x = Check.layout("3a=-1", "2b-a=0", "c-b=1", "3d+2e=0", "2d+3e=0", "f-3a=1@w");
        Check.due("low(0)", x.low(0, 0), x.low(0, 1), -1, 3);
        Check.due("high(0)", x.high(0, 0), x.high(0, 1), -1, 3);
        Check.due("low(1)", x.low(1, 0), x.low(1, 1), -1, 6);
        Check.due("high(2)", x.high(2, 0), x.high(2, 1), 5, 6);
        for (int v = 3; v <= 5; v++) {
            Check.due("0 is 0/1", x.low(v, 0), x.low(v, 1), 0, 1);
            Check.due("0 is 0/1", x.high(v, 0), x.high(v, 1), 0, 1);
            Check.due("0 is 0/1", x.reach(v, 0, 0), x.reach(v, 0, 1), v < 5 ? 0 : -1000, 1);
        }
        Check.due("0 is 0/1", x.value(3, 0, 0), x.value(3, 0, 1), 0, 1);
        Check.due("cost 0 is 0/1", x.cost(3, 0), x.cost(3, 1), 0, 1);
        Check.due("force 0 is 0/1", x.force(5, 0, 3, 0), x.force(5, 0, 3, 1), 0, 1);
        Check.due("value", x.value(0, 0, 0), x.value(0, 0, 1), -1, 1);
        Check.due("reach", x.reach(1, 1, 0), x.reach(1, 1, 1), -1, 6);
        LayoutSolver cost = Check.layout("3a=1", "2b=1", "a+b=0@s2", "a-b=0@m3", "a+b-c=0@w5", "c=0");
        Check.due("cost", cost.cost(1, 0), cost.cost(1, 1), 5, 3);
        Check.due("cost", cost.cost(2, 0), cost.cost(2, 1), 1, 2);
        Check.due("cost", cost.cost(3, 0), cost.cost(3, 1), 25, 6);
        Check.due("force", cost.force(5, 7, 3, 0), cost.force(5, 7, 3, 1), 25, 6);
        Check.due("value", cost.value(3, 1, 0), cost.value(3, 1, 1), -1, 6);
    }

    private static void sets() {
        LayoutSolver x = new LayoutSolver();
        Check.due("ambiguous()", x.ambiguous(), 63);
        int left = 63;
        for (int v = 0; v < 6; v++) {
            x.term(v, 3);
            x.add(1, v - 2, v % 4, 1);
            left -= 1 << v;
            Check.due("ambiguous()", x.ambiguous(), left);
        }
        x.setConstant(0, 199);
        Check.due("ambiguous()", x.ambiguous(), 0);
        for (int v = 0; v < 6; v++) Check.due("low is high", x.low(v, 0) * x.high(v, 1), x.high(v, 0) * x.low(v, 1));
        LayoutSolver edge = Check.layout("a-b>200", "b+3c>200", "c=-200", "b<200@s");
        Check.dueRange(edge, 1, 800, 800);
        Check.dueRange(edge, 0, 1000, 1000);
        Check.due("ambiguous()", edge.ambiguous(), 63 - 7);
    }

    private static void statusAtTheConstant() {
        for (int constant = -1; constant <= 11; constant++) {
            LayoutSolver held = Check.layout("a=0@s5", "a=10@s5", "a<" + constant + "@w", "a>" + constant + "@w");
            int at = Math.max(0, Math.min(10, constant));
            Check.dueRange(held, 0, at, at);
            Check.due("status of a<" + constant, held.status(2), constant < 0 ? 1 : 0);
            Check.due("status of a>" + constant, held.status(3), constant > 10 ? 1 : 0);
            held.setStrength(2, 2, 1);
            Check.dueRange(held, 0, at, at);
            held.remove(3);
            Check.dueRange(held, 0, 0, at);
        }
        LayoutSolver required = Check.layout("a>0", "a<10", "b=3");
        for (int i = 0; i < 3; i++) Check.due("status(" + i + ")", required.status(i), 0);
        LayoutSolver once = Check.layout("a>10@s", "a<0@s", "a=10@s", "a=0@s");
        Check.due("only at one end", once.status(0), 2);
        Check.due("only at the other end", once.status(1), 2);
        Check.due("only at one end", once.status(2), 2);
        Check.due("only at the other end", once.status(3), 2);
        LayoutSolver never = Check.layout("a>11@s", "a<10@s5", "a=-1@s", "a=10@s5", "a<9@s");
        int[] statuses = {1, 0, 1, 0, 1};
        for (int i = 0; i < 5; i++) Check.due("status(" + i + ")", never.status(i), statuses[i]);
    }

    private static void connectedVariables() {
        for (int v = 0; v < 6; v++) {
            for (int w = 0; w < 6; w++) {
                if (v == w) continue;
                LayoutSolver x = new LayoutSolver();
                x.term(v, -1);
                x.term(w, 3);
                x.add(v % 3, 0, w % 4, 1);
                for (int u = 0; u < 6; u++) {
                    Check.due("connected(" + u + ")", x.connected(u), u == v || u == w ? 1 << v | 1 << w : 1 << u);
                }
                x.remove(0);
                Check.due("connected(" + v + ")", x.connected(v), 1 << v);
            }
        }
        LayoutSolver x = Check.layout("a<1", "b=2@s", "c-c+d<5", "e+f-f<2");
        for (int u = 0; u < 6; u++) Check.due("connected(" + u + ")", x.connected(u), 1 << u);
        x.term(0, 1);
        x.term(5, 1);
        Check.due("the draft does not connect", x.connected(0), 1);
        Check.put(x, "a+b+c+d+e+f<200@w");
        for (int u = 0; u < 6; u++) Check.due("connected(" + u + ")", x.connected(u), 63);
        LayoutSolver zigzag = Check.layout("a+f<1", "f+b<1@w", "b+e<1@m", "e+c<1@s", "c+d<1");
        for (int u = 0; u < 6; u++) Check.due("connected(" + u + ")", zigzag.connected(u), 63);
        zigzag.remove(2);
        Check.due("connected(0)", zigzag.connected(0), 1 + 32 + 2);
        Check.due("connected(3)", zigzag.connected(3), 16 + 4 + 8);
    }

    private static void blockersInTheirOrder() {
        LayoutSolver x = new LayoutSolver();
        for (int i = 0; i < 14; i++) {
            x.term(0, 1);
            x.add(0, i, 0, 1);
        }
        x.term(0, 1);
        Check.due("the last one that blocks", x.blockers(2, 14), 1 << 13);
        Check.due("the only one that blocks", x.blockers(2, 1), 1);
        Check.due("the last of some", x.blockers(1, 6), 1 << 5);
        Check.due("none", x.blockers(1, 0), Check.NONE);
        x.setConstant(13, 0);
        x.setStrength(0, 1, 1);
        Check.due("of two the last", x.blockers(2, 1), 1 << 13);
        x.setStrength(13, 1, 1);
        Check.due("strong ones do not block", x.blockers(2, 1), Check.NONE);
        x.remove(5);
        Check.due("removed ones do not block", x.blockers(2, 6), 1 << 4);
        LayoutSolver chain = Check.layout("a-b<-200", "b-c<-200", "c-d<-200", "d-e<-200", "e-f<-200", "f<200", "a<0");
        Check.draw(chain, 1);
        Check.due("the chain, for one alone is not enough", chain.blockers(2, -200), 63);
        Check.due("the last one alone is enough", chain.blockers(2, 1), 64);
        chain.remove(6);
        Check.due("the chain and its end", chain.blockers(2, 0), 63);
        Check.due("the chain and the limit", chain.blockers(2, 1), 31);
        Check.due("below the limit", chain.setConstant(5, -1), Check.CONFLICT);
        Check.due("at the limit", chain.setConstant(5, 0), 1200);
        Check.due("one point is left", chain.ambiguous(), 0);
        Check.due("reach", chain.reach(0, 1, 0), -1000);
        chain.remove(4);
        chain.remove(2);
        Check.due("not in conflict any more", chain.blockers(2, 200), Check.NONE);
    }

    private static void forcedToTheLimits() {
        LayoutSolver x = Check.layout("a-b=0@s", "b=0@m", "3c-a=0");
        Check.due("force", x.force(0, 1000, 1, 0), 0);
        Check.due("force", x.force(0, 1000, 2, 0), 1000);
        Check.due("force", x.force(1, -1000, 2, 0), 1000);
        Check.due("force", x.force(2, 333, 1, 0), 0);
        Check.due("force", x.force(2, 334, 1, 0), Check.GONE + Check.CONFLICT);
        Check.due("force", x.force(2, -333, 2, 0), 999);
        Check.due("force", x.force(2, -334, 2, 0), Check.GONE + Check.CONFLICT);
        Check.due("best", x.best(2, 333, 334), 10333);
        Check.due("best", x.best(2, 334, 349), Check.NONE);
        Check.due("best", x.best(2, -348, -333), 9667);
        Check.due("best", x.best(2, -349, -334), Check.NONE);
        Check.due("cost", x.cost(2, 0), 0);
    }

    private static void bestOfSeveral() {
        LayoutSolver x = Check.layout("a>3@s", "a<9@s", "a=5@m", "a=6@m");
        Check.due("of 5 and 6 the smaller", x.best(0, 0, 15), 10005);
        Check.due("from 6", x.best(0, 6, 15), 10006);
        Check.due("to 4", x.best(0, -11, 4), 10004);
        Check.due("the first one", x.best(0, 9, 12), 10009);
        x.remove(2);
        x.remove(3);
        Check.due("of 3 to 9 the smallest", x.best(0, -2, 13), 10003);
        x.setConstant(0, 10);
        Check.due("of 9 and 10 the smaller", x.best(0, 0, 15), 10009);
        x.setConstant(1, -9);
        x.setStrength(1, 1, 2);
        Check.due("a negative one", x.best(0, -15, 0), 9991);
        Check.put(x, "a>-9");
        Check.due("some are not feasible", x.best(0, -15, -8), 9991);
        Check.put(x, "2a=-9@w");
        Check.due("a weak one does not decide", x.best(0, -15, 0), 9991);
        Check.due("none is feasible", x.best(0, -25, -10), Check.NONE);
    }

    private static void burdens() {
        Check.due("no constraint", new LayoutSolver().burdens(), 0);
        LayoutSolver x = new LayoutSolver();
        for (int i = 0; i < 12; i++) {
            x.term(i % 6, 1);
            x.add(1, i, 1 + i % 3, 1);
        }
        Check.due("each of twelve", x.burdens(), 4095);
        Check.put(x, "a+b=100@s");
        Check.put(x, "c+d=100@w5");
        Check.due("each of fourteen", x.burdens(), 16383);
        LayoutSolver none = Check.layout("a<5", "b>3@s", "c=3@m", "a+b+c<100@w");
        Check.due("none of them", none.burdens(), 0);
        LayoutSolver required = Check.layout("a>5", "a=3@w", "a=9@w", "a=5@w");
        Check.due("burdens()", required.burdens(), 2 + 4);
        LayoutSolver traded = Check.layout("a=0@s", "a=1@m5");
        Check.due("burdens()", traded.burdens(), 3);
        LayoutSolver even = Check.layout("a<0", "a<0", "a>1@w", "b=1@m", "b=2@m", "b=3@m");
        Check.due("burdens()", even.burdens(), 4 + 8 + 32);
    }

    private static void play() {
        LayoutSolver x = Check.layout("a=10@w", "a<5", "b>3", "b<9", "c=0@s");
        Check.due("the costs would be less", x.play(0, 0), 1010);
        Check.due("the costs would be more", x.play(0, 1), 1010);
        Check.due("the costs would be more", x.play(1, 0), 1005);
        Check.due("the costs would be less", x.play(1, 1), 1005);
        Check.due("thirty steps", x.play(2, 0), 973);
        Check.due("till the conflict", x.play(2, 1), 1009);
        Check.due("till the conflict", x.play(3, 0), 1003);
        Check.due("thirty steps", x.play(3, 1), 1039);
        Check.due("thirty steps", x.play(4, 0), 970);
        Check.due("thirty steps", x.play(4, 1), 1030);
        for (int far = 28; far <= 32; far++) {
            LayoutSolver till = Check.layout("a<" + far, "a>-" + far + "@m", "a=0", "b<" + far + "@s", "b=0@m");
            Check.due("play", till.play(2, 0), 1000 - Math.min(far, 30));
            Check.due("play", till.play(2, 1), 1000 + Math.min(far, 30));
            Check.due("play", till.play(4, 1), 1000 + Math.min(far, 30));
            Check.due("play", till.play(4, 0), 970);
            Check.due("play", till.play(0, 0), 1000 + far - Math.min(far, 30));
            Check.due("play", till.play(1, 1), 1000 - far + Math.min(far, 30));
        }
    }

    private static void playToTheEnds() {
        for (int constant = -200; constant <= 200; constant++) {
            if (constant > -165 && constant < 165) continue;
            LayoutSolver x = new LayoutSolver();
            x.term(5, 1);
            x.add(Math.floorMod(constant, 3), constant, Math.floorMod(constant, 4), 1);
            Check.due("play from " + constant, x.play(0, 0), 1000 + Math.max(-200, constant - 30));
            Check.due("play from " + constant, x.play(0, 1), 1000 + Math.min(200, constant + 30));
            Check.due("constant", x.about(0, 7), 1000 + constant);
        }
    }
}

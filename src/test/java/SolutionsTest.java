/** Promises 16 to 23: cost, low, high, ambiguous, value, status, reach, connected. */
public final class SolutionsTest {
    public static void main(String[] args) {
        promise16();
        promise16Order();
        promise17And18();
        promise19();
        promise20();
        promise21();
        promise22();
        promise23();
        Check.end("SolutionsTest");
    }

    private static void dueCost(LayoutSolver x, int strength, long numerator, long denominator) {
        Check.due("cost(" + strength + ")", x.cost(strength, 0), x.cost(strength, 1), numerator, denominator);
    }

    private static void promise16() {
        LayoutSolver x = Check.layout("2a=7", "a=10@m", "a>9@m3", "a<1@s5", "a<4@s5", "3b=1@w", "b=0@w");
        dueCost(x, 1, 25, 2);
        dueCost(x, 2, 23, 1);
        dueCost(x, 3, 1, 3);
        LayoutSolver one = Check.layout("2a=7", "a=10@m");
        dueCost(one, 1, 0, 1);
        dueCost(one, 2, 13, 2);
        Check.due("cost(0,0)", x.cost(0, 0), Check.GONE + Check.BAD_VALUE);
        Check.due("cost(4,0)", x.cost(4, 0), Check.GONE + Check.BAD_VALUE);
        Check.due("cost(1,-1)", x.cost(1, -1), Check.GONE + Check.BAD_VALUE);
        Check.due("cost(1,2)", x.cost(1, 2), Check.GONE + Check.BAD_VALUE);
        Check.due("cost(least,0)", x.cost(Check.LEAST, 0), Check.GONE + Check.BAD_VALUE);
    }

    /** A strength counts nothing against one that comes before it, whatever the weights are. */
    private static void promise16Order() {
        LayoutSolver x = Check.layout("a=0@s", "a=50@m5", "a=60@m5", "a=70@w5", "b>30@m", "b<20@w5", "b=0@w5");
        dueCost(x, 1, 0, 1);
        dueCost(x, 2, 550, 1);
        dueCost(x, 3, 350 + 50 + 150, 1);
        Check.dueRange(x, 0, 0, 0);
        Check.dueRange(x, 1, 30, 30);
        x.remove(0);
        dueCost(x, 2, 50, 1);
        dueCost(x, 3, 50 + 50 + 150, 1);
        Check.dueRange(x, 0, 60, 60);
        LayoutSolver limits = Check.layout("a-3b>200@s");
        dueCost(limits, 1, 0, 1);
        LayoutSolver far = Check.layout("c=-200", "b-3c=0", "a-3b=0@s2");
        dueCost(far, 1, 1600, 1);
    }

    private static void promise17And18() {
        LayoutSolver x = Check.layout("a=10@s", "a=20@s", "2b+3c=7", "b-c>0", "3d<-1@w");
        Check.dueRange(x, 0, 10, 20);
        Check.due("low(1)", x.low(1, 0), x.low(1, 1), 7, 5);
        Check.due("high(1)", x.high(1, 0), x.high(1, 1), 1000, 1);
        Check.due("low(2)", x.low(2, 0), x.low(2, 1), -1993, 3);
        Check.due("high(2)", x.high(2, 0), x.high(2, 1), 7, 5);
        Check.due("high(3)", x.high(3, 0), x.high(3, 1), -1, 3);
        Check.dueRange(x, 5, -1000, 1000);
        x.setConstant(2, 0);
        Check.due("low(1)", x.low(1, 0), x.low(1, 1), 0, 1);
        long[] got = {x.low(-1, 0), x.low(6, 0), x.low(6, 2), x.high(-1, 0), x.high(6, 0), x.high(6, 2)};
        for (long g : got) {
            Check.due("no such variable", g, Check.GONE + Check.NO_SUCH);
        }
        long[] bad = {x.low(0, -1), x.low(0, 2), x.low(5, Check.MOST), x.high(0, -1), x.high(0, 2), x.high(5, Check.LEAST)};
        for (long b : bad) {
            Check.due("no such part", b, Check.GONE + Check.BAD_VALUE);
        }
    }

    private static void promise19() {
        LayoutSolver x = Check.layout("a=1", "b+c=2", "d>3@w", "e=7@w", "2f=-3@s");
        Check.due("ambiguous()", x.ambiguous(), 2 + 4 + 8);
        Check.put(x, "d<3@s");
        Check.due("ambiguous()", x.ambiguous(), 2 + 4);
        Check.put(x, "b-c=1@w");
        Check.due("ambiguous()", x.ambiguous(), 0);
        Check.put(x, "b-c=2@w");
        Check.due("ambiguous()", x.ambiguous(), 6);
        // The only points are at a limit: 3b = a with b = 1000/3.
        LayoutSolver limit = Check.layout("a-3b=0", "b=200@w", "a-c=0@s", "c>200", "2c-d-e=0", "d=200", "e>200", "c+a>200");
        Check.due("ambiguous()", limit.ambiguous(), 32);
    }

    private static void promise20() {
        LayoutSolver x = Check.layout("a>0", "a<5", "2b=3", "2a-b<100@w", "a+c=0", "f<200");
        dueValue(x, 0, 0, 5);
        dueValue(x, 1, 0, 5);
        dueValue(x, 2, 3, 3);
        Check.due("value(3,0)", x.value(3, 0, 0), x.value(3, 0, 1), -3, 2);
        Check.due("value(3,1)", x.value(3, 1, 0), x.value(3, 1, 1), 17, 2);
        dueValue(x, 4, 0, 0);
        dueValue(x, 5, -1000, 200);
        Check.due("value(6,2,2)", x.value(6, 2, 2), Check.GONE + Check.NO_SUCH);
        Check.due("value(-1,0,0)", x.value(-1, 0, 0), Check.GONE + Check.NO_SUCH);
        Check.due("value(14,0,0)", x.value(14, 0, 0), Check.GONE + Check.NO_SUCH);
        Check.due("value(0,2,0)", x.value(0, 2, 0), Check.GONE + Check.BAD_VALUE);
        Check.due("value(0,-1,0)", x.value(0, -1, 0), Check.GONE + Check.BAD_VALUE);
        Check.due("value(0,0,2)", x.value(0, 0, 2), Check.GONE + Check.BAD_VALUE);
        Check.due("value(0,0,-1)", x.value(0, 0, -1), Check.GONE + Check.BAD_VALUE);
    }

    private static void dueValue(LayoutSolver x, int constraint, long low, long high) {
        Check.due("value(" + constraint + ",0)", x.value(constraint, 0, 0), x.value(constraint, 0, 1), low, 1);
        Check.due("value(" + constraint + ",1)", x.value(constraint, 1, 0), x.value(constraint, 1, 1), high, 1);
    }

    private static void promise21() {
        LayoutSolver x = Check.layout("a=10@s", "a=20@s", "a<5@w", "a<10@w", "a>10@w", "a>11@w");
        int[] alone = {0, 1, 1, 0, 0, 1};
        x.setStrength(5, 3, 1);
        for (int i = 0; i < 6; i++) {
            // Of the weak ones two pull down and one pulls up, so that a is 10.
            Check.due("status(" + i + ")", x.status(i), alone[i]);
        }
        LayoutSolver range = Check.layout("a=10@s", "a=20@s", "a+b=9@w", "b-c=0");
        Check.due("status(0)", range.status(0), 2);
        Check.due("status(1)", range.status(1), 2);
        Check.due("status(2)", range.status(2), 0);
        Check.due("status(3)", range.status(3), 0);
        LayoutSolver sides = Check.layout("a<10@s", "a>20@s");
        Check.due("status(0)", sides.status(0), 2);
        Check.due("status(1)", sides.status(1), 2);
        LayoutSolver both = Check.layout("a=10@s", "a=20@s", "a=15@m", "a=15@m", "b>16@s", "b<15@s", "b=40@s", "b=-20@s");
        Check.due("status", both.status(0), 1);
        Check.due("status", both.status(1), 1);
        Check.due("status", both.status(2), 0);
        Check.due("status", both.status(4), 2);
        Check.due("status", both.status(5), 2);
        Check.due("status", both.status(6), 1);
        Check.due("status(8)", both.status(8), Check.NO_SUCH);
        Check.due("status(-1)", both.status(-1), Check.NO_SUCH);
        Check.due("status(14)", both.status(14), Check.NO_SUCH);
    }

    private static void promise22() {
        LayoutSolver x = Check.layout("a=10@s", "2a<25", "3a>-7", "a-b=0@s", "c-3a=0");
        Check.due("reach(0,0)", x.reach(0, 0, 0), x.reach(0, 0, 1), -7, 3);
        Check.due("reach(0,1)", x.reach(0, 1, 0), x.reach(0, 1, 1), 25, 2);
        Check.due("reach(1,0)", x.reach(1, 0, 0), x.reach(1, 0, 1), -1000, 1);
        Check.due("reach(1,1)", x.reach(1, 1, 0), x.reach(1, 1, 1), 1000, 1);
        Check.due("reach(2,0)", x.reach(2, 0, 0), x.reach(2, 0, 1), -7, 1);
        Check.due("reach(2,1)", x.reach(2, 1, 0), x.reach(2, 1, 1), 75, 2);
        Check.dueRange(x, 0, 10, 10);
        Check.dueRange(x, 1, 10, 10);
        Check.due("reach(6,2,2)", x.reach(6, 2, 2), Check.GONE + Check.NO_SUCH);
        Check.due("reach(-1,0,0)", x.reach(-1, 0, 0), Check.GONE + Check.NO_SUCH);
        Check.due("reach(0,2,0)", x.reach(0, 2, 0), Check.GONE + Check.BAD_VALUE);
        Check.due("reach(0,-1,0)", x.reach(0, -1, 0), Check.GONE + Check.BAD_VALUE);
        Check.due("reach(0,0,2)", x.reach(0, 0, 2), Check.GONE + Check.BAD_VALUE);
        Check.due("reach(0,0,-1)", x.reach(0, 0, -1), Check.GONE + Check.BAD_VALUE);
    }

    private static void promise23() {
        LayoutSolver x = Check.layout("c+d<5", "b-c=0@w", "a+b>1@s", "e<3");
        Check.due("connected(0)", x.connected(0), 15);
        Check.due("connected(3)", x.connected(3), 15);
        Check.due("connected(4)", x.connected(4), 16);
        Check.due("connected(5)", x.connected(5), 32);
        x.remove(1);
        Check.due("connected(0)", x.connected(0), 3);
        Check.due("connected(2)", x.connected(2), 12);
        LayoutSolver chain = Check.layout("e+f<1", "d+e<1", "c+d<1", "b+c<1", "a+b<1");
        Check.due("connected(0)", chain.connected(0), 63);
        Check.due("connected(5)", chain.connected(5), 63);
        Check.due("connected(6)", x.connected(6), Check.NO_SUCH);
        Check.due("connected(-1)", x.connected(-1), Check.NO_SUCH);
        Check.due("connected(least)", x.connected(Check.LEAST), Check.NO_SUCH);
    }
}

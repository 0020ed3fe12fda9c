import java.util.ArrayDeque;
import java.util.ArrayList;
import java.util.Deque;
import java.util.List;
import java.util.regex.Matcher;
import java.util.regex.Pattern;

/**
 * The document once more, by the slowest means: all points where enough of the constraints and limits
 * are met exactly are gone through. Some of them are optimal, and the optimal points lie between those.
 */
final class Reference {
    private static final Pattern TEXT = Pattern.compile(
            "-?[23]?[a-f]([+-][23]?[a-f])*[<=>]-?(0|[1-9][0-9]?|1[0-9][0-9]|200)(@(r|[smw][1-5]?))?");
    private static final long GONE = -1000000000000000000L;
    private static final int NO_SUCH = -1, BAD_VALUE = -2, CONFLICT = -3, TOO_MANY = -4, NOT_POSSIBLE = -5, NONE = -6;

    /** Coefficients 0 to 5, then relation, constant, strength, weight. */
    private int[][] layout = new int[14][];
    private int[] draft = new int[6];
    private String text = "";
    private final Deque<int[][]> earlier = new ArrayDeque<>();
    private final Deque<int[][]> later = new ArrayDeque<>();
    private final int[][][] slots = new int[2][][];

    /** The vertices that are optimal, each as six numerators and a denominator; and the costs there. */
    private static final class Optimum {
        final List<long[]> points = new ArrayList<>();
        long[] costs = null;
    }

    int term(int variable, int coefficient) {
        if (variable < 0 || variable > 5) return NO_SUCH;
        if (coefficient < -3 || coefficient > 3) return BAD_VALUE;
        int before = draft[variable];
        draft[variable] = coefficient;
        return before + 10;
    }

    int add(int relation, int constant, int strength, int weight) {
        if (relation < 0 || relation > 2 || constant < -200 || constant > 200) return BAD_VALUE;
        if (strength < 0 || strength > 3 || weight < 1 || weight > 5) return BAD_VALUE;
        if (zero(draft)) return NOT_POSSIBLE;
        int number = enter(made(draft, relation, constant, strength, weight));
        if (number >= 0) draft = new int[6];
        return number;
    }

    int remove(int constraint) {
        if (!exists(constraint)) return NO_SUCH;
        change(constraint, null);
        return count(0);
    }

    int setConstant(int constraint, int constant) {
        if (!exists(constraint)) return NO_SUCH;
        if (constant < -200 || constant > 200) return BAD_VALUE;
        int[] before = layout[constraint];
        int[] after = before.clone();
        after[7] = constant;
        return change(constraint, after) ? before[7] + 1000 : CONFLICT;
    }

    int setStrength(int constraint, int strength, int weight) {
        if (!exists(constraint)) return NO_SUCH;
        if (strength < 0 || strength > 3 || weight < 1 || weight > 5) return BAD_VALUE;
        int[] before = layout[constraint];
        int[] after = before.clone();
        after[8] = strength;
        after[9] = weight;
        return change(constraint, after) ? before[8] : CONFLICT;
    }

    int about(int constraint, int what) {
        if (!exists(constraint)) return NO_SUCH;
        if (what < 0 || what > 9) return BAD_VALUE;
        return layout[constraint][what] + (what < 6 ? 10 : what == 7 ? 1000 : 0);
    }

    int constraints() {
        int found = 0;
        for (int i = 0; i < 14; i++) if (exists(i)) found |= 1 << i;
        return found;
    }

    int say(int character) {
        if (character < 33 || character > 126) return BAD_VALUE;
        if (text.length() == 40) return TOO_MANY;
        text += (char) character;
        return text.length();
    }

    int wipe() {
        int length = text.length();
        text = "";
        return length;
    }

    int fault() {
        if (TEXT.matcher(text).matches()) return NONE;
        for (int i = 0; i < text.length(); i++) {
            Matcher matcher = TEXT.matcher(text.substring(0, i + 1));
            if (!matcher.matches() && !matcher.hitEnd()) return i;
        }
        return text.length();
    }

    int parse() {
        if (fault() != NONE) return NOT_POSSIBLE;
        int[] coefficients = new int[6];
        Matcher term = Pattern.compile("([+-]?)([23]?)([a-f])").matcher(text.replaceAll("[<=>].*", ""));
        while (term.find()) {
            int factor = term.group(2).isEmpty() ? 1 : Integer.parseInt(term.group(2));
            coefficients[term.group(3).charAt(0) - 'a'] += term.group(1).equals("-") ? -factor : factor;
        }
        if (zero(coefficients)) return NOT_POSSIBLE;
        for (int c : coefficients) if (c < -3 || c > 3) return BAD_VALUE;
        Matcher rest = Pattern.compile(".*?([<=>])(-?[0-9]+)(?:@(.)(.?))?").matcher(text);
        if (!rest.matches()) throw new IllegalStateException(text);
        int strength = rest.group(3) == null ? 0 : "rsmw".indexOf(rest.group(3));
        int weight = rest.group(4) == null || rest.group(4).isEmpty() ? 1 : Integer.parseInt(rest.group(4));
        int number = enter(made(coefficients, "<=>".indexOf(rest.group(1)), Integer.parseInt(rest.group(2)),
                strength, weight));
        if (number >= 0) text = "";
        return number;
    }

    int spell(int constraint, int index) {
        if (!exists(constraint)) return NO_SUCH;
        String spelled = spelled(layout[constraint]);
        if (index == -1) return spelled.length();
        return index < 0 || index >= spelled.length() ? NONE : spelled.charAt(index);
    }

    private static String spelled(int[] c) {
        String spelled = "";
        for (int i = 0; i < 6; i++) {
            if (c[i] != 0) {
                String term = (Math.abs(c[i]) == 1 ? "" : "" + Math.abs(c[i])) + (char) ('a' + i);
                spelled += (c[i] < 0 ? "-" : spelled.isEmpty() ? "" : "+") + term;
            }
        }
        spelled += "<=>".substring(c[6], c[6] + 1) + c[7];
        if (c[8] != 0) spelled += "@" + "rsmw".charAt(c[8]) + (c[9] == 1 ? "" : "" + c[9]);
        return spelled;
    }

    int undo() {
        if (earlier.isEmpty()) return NOT_POSSIBLE;
        later.addLast(layout);
        layout = earlier.removeLast();
        return 1;
    }

    int redo() {
        if (later.isEmpty()) return NOT_POSSIBLE;
        earlier.addLast(layout);
        layout = later.removeLast();
        return 1;
    }

    long cost(int strength, int part) {
        if (strength < 1 || strength > 3 || part < 0 || part > 1) return GONE + BAD_VALUE;
        return costPart(optimum(present(), true), strength, part);
    }

    long low(int variable, int part) {
        return variableAt(variable, 0, part, true);
    }

    long high(int variable, int part) {
        return variableAt(variable, 1, part, true);
    }

    int ambiguous() {
        Optimum optimum = optimum(present(), true);
        int found = 0;
        for (int i = 0; i < 6; i++) {
            int[] unit = new int[6];
            unit[i] = 1;
            if (compare(extreme(optimum, unit, 0), extreme(optimum, unit, 1)) != 0) found |= 1 << i;
        }
        return found;
    }

    long value(int constraint, int side, int part) {
        if (!exists(constraint)) return GONE + NO_SUCH;
        if (side < 0 || side > 1 || part < 0 || part > 1) return GONE + BAD_VALUE;
        return lowest(extreme(optimum(present(), true), layout[constraint], side))[part];
    }

    int status(int constraint) {
        if (!exists(constraint)) return NO_SUCH;
        int[] c = layout[constraint];
        Optimum optimum = optimum(present(), true);
        long[] constant = {c[7], 1};
        int low = compare(extreme(optimum, c, 0), constant);
        int high = compare(extreme(optimum, c, 1), constant);
        if (c[6] == 0) return high <= 0 ? 0 : low > 0 ? 1 : 2;
        if (c[6] == 2) return low >= 0 ? 0 : high < 0 ? 1 : 2;
        return low == 0 && high == 0 ? 0 : low > 0 || high < 0 ? 1 : 2;
    }

    long reach(int variable, int side, int part) {
        return variableAt(variable, side, part, false);
    }

    int connected(int variable) {
        if (variable < 0 || variable > 5) return NO_SUCH;
        int found = 1 << variable;
        for (int before = 0; before != found; ) {
            before = found;
            for (int[] c : present()) {
                int own = 0;
                for (int i = 0; i < 6; i++) if (c[i] != 0) own |= 1 << i;
                if ((own & found) != 0) found |= own;
            }
        }
        return found;
    }

    int blockers(int relation, int constant) {
        if (relation < 0 || relation > 2 || constant < -200 || constant > 200) return BAD_VALUE;
        if (zero(draft)) return NOT_POSSIBLE;
        List<int[]> required = new ArrayList<>();
        List<Integer> numbers = new ArrayList<>();
        for (int i = 0; i < 14; i++) {
            if (exists(i) && layout[i][8] == 0) {
                required.add(layout[i]);
                numbers.add(i);
            }
        }
        required.add(made(draft, relation, constant, 0, 1));
        if (optimum(required, false).costs != null) return NONE;
        int found = 0;
        int at = 0;
        for (int number : numbers) {
            int[] left = required.remove(at);
            if (optimum(required, false).costs != null) {
                required.add(at, left);
                at++;
                found |= 1 << number;
            }
        }
        return found;
    }

    long force(int variable, int number, int strength, int part) {
        if (variable < 0 || variable > 5) return GONE + NO_SUCH;
        if (number < -1000 || number > 1000) return GONE + BAD_VALUE;
        if (strength < 1 || strength > 3 || part < 0 || part > 1) return GONE + BAD_VALUE;
        Optimum optimum = optimum(forced(variable, number), true);
        return optimum.costs == null ? GONE + CONFLICT : costPart(optimum, strength, part);
    }

    int best(int variable, int from, int to) {
        if (variable < 0 || variable > 5) return NO_SUCH;
        if (from < -1000 || from > 1000 || to < from || to > from + 15 || to > 1000) return BAD_VALUE;
        long[] least = null;
        int found = NONE;
        for (int number = from; number <= to; number++) {
            Optimum optimum = optimum(forced(variable, number), true);
            if (optimum.costs != null && (least == null || compareCosts(optimum.costs, least) < 0)) {
                least = optimum.costs;
                found = number + 10000;
            }
        }
        return found;
    }

    int burdens() {
        long[] costs = optimum(present(), true).costs;
        int found = 0;
        for (int i = 0; i < 14; i++) {
            if (exists(i)) {
                int[] removed = layout[i];
                layout[i] = null;
                if (compareCosts(optimum(present(), true).costs, costs) < 0) found |= 1 << i;
                layout[i] = removed;
            }
        }
        return found;
    }

    int play(int constraint, int side) {
        if (!exists(constraint)) return NO_SUCH;
        if (side < 0 || side > 1) return BAD_VALUE;
        long[] costs = optimum(present(), true).costs;
        int[] c = layout[constraint];
        int present = c[7];
        int step = side == 0 ? -1 : 1;
        int reached = present;
        for (int i = 1; i <= 30; i++) {
            c[7] = present + i * step;
            if (c[7] < -200 || c[7] > 200) break;
            long[] then = optimum(present(), true).costs;
            if (then == null || compareCosts(then, costs) != 0) break;
            reached = c[7];
        }
        c[7] = present;
        return reached + 1000;
    }

    int count(int what) {
        switch (what) {
            case 0: return Integer.bitCount(constraints());
            case 1: return text.length();
            case 2: return earlier.size();
            case 3: return later.size();
            case 4: return (int) present().stream().filter(c -> c[8] == 0).count();
            default: return BAD_VALUE;
        }
    }

    int save(int slot) {
        if (slot < 0 || slot > 1) return BAD_VALUE;
        slots[slot] = layout.clone();
        return count(0);
    }

    int restore(int slot) {
        if (slot < 0 || slot > 1) return BAD_VALUE;
        if (slots[slot] == null) return NOT_POSSIBLE;
        layout = slots[slot].clone();
        earlier.clear();
        later.clear();
        return count(0);
    }

    // ---- what the methods share

    private boolean exists(int constraint) {
        return constraint >= 0 && constraint < 14 && layout[constraint] != null;
    }

    private static boolean zero(int[] coefficients) {
        for (int i = 0; i < 6; i++) if (coefficients[i] != 0) return false;
        return true;
    }

    private static int[] made(int[] coefficients, int relation, int constant, int strength, int weight) {
        int[] c = new int[10];
        System.arraycopy(coefficients, 0, c, 0, 6);
        c[6] = relation;
        c[7] = constant;
        c[8] = strength;
        c[9] = weight;
        return c;
    }

    private int enter(int[] constraint) {
        for (int i = 0; i < 14; i++) {
            if (layout[i] == null) return change(i, constraint) ? i : CONFLICT;
        }
        return TOO_MANY;
    }

    /** The arrays of constraints and of layouts never change once they stand, so snapshots may share them. */
    private boolean change(int number, int[] after) {
        int[][] before = layout;
        layout = layout.clone();
        layout[number] = after;
        if (after != null && after[8] == 0 && optimum(present(), false).costs == null) {
            layout = before;
            return false;
        }
        earlier.addLast(before);
        if (earlier.size() > 20) earlier.removeFirst();
        later.clear();
        return true;
    }

    private List<int[]> present() {
        List<int[]> found = new ArrayList<>();
        for (int[] c : layout) if (c != null) found.add(c);
        return found;
    }

    private List<int[]> forced(int variable, int number) {
        int[] unit = new int[6];
        unit[variable] = 1;
        List<int[]> all = present();
        all.add(made(unit, 1, number, 0, 1));
        return all;
    }

    private long variableAt(int variable, int side, int part, boolean optimal) {
        if (variable < 0 || variable > 5) return GONE + NO_SUCH;
        if (side < 0 || side > 1 || part < 0 || part > 1) return GONE + BAD_VALUE;
        int[] unit = new int[6];
        unit[variable] = 1;
        return lowest(extreme(optimum(present(), optimal), unit, side))[part];
    }

    private static long costPart(Optimum optimum, int strength, int part) {
        return lowest(new long[] {optimum.costs[strength - 1], optimum.costs[3]})[part];
    }

    private static long[] lowest(long[] fraction) {
        long a = Math.abs(fraction[0]);
        long b = fraction[1];
        while (a != 0) {
            long c = b % a;
            b = a;
            a = c;
        }
        return new long[] {fraction[0] / b, fraction[1] / b};
    }

    private static int compare(long[] a, long[] b) {
        return Long.compare(Math.multiplyExact(a[0], b[1]), Math.multiplyExact(b[0], a[1]));
    }

    private static int compareCosts(long[] a, long[] b) {
        for (int i = 0; i < 3; i++) {
            int c = compare(new long[] {a[i], a[3]}, new long[] {b[i], b[3]});
            if (c != 0) return c;
        }
        return 0;
    }

    private static long[] extreme(Optimum optimum, int[] coefficients, int side) {
        long[] found = null;
        for (long[] point : optimum.points) {
            long[] value = {dot(coefficients, point), point[6]};
            if (found == null || (side == 0 ? compare(value, found) < 0 : compare(value, found) > 0)) found = value;
        }
        // Variables without a constraint are left out of the points, and range over all that the limits leave.
        for (int i = 0; i < 6; i++) {
            if (coefficients[i] != 0 && optimum.points.get(0)[i] == Long.MIN_VALUE) {
                return new long[] {side == 0 ? -1000 : 1000, 1};
            }
        }
        return found;
    }

    private static long dot(int[] coefficients, long[] point) {
        long sum = 0;
        for (int i = 0; i < 6; i++) if (point[i] != Long.MIN_VALUE) sum += coefficients[i] * point[i];
        return sum;
    }

    // ---- all vertices

    private static Optimum optimum(List<int[]> constraints, boolean withCosts) {
        List<Integer> used = new ArrayList<>();
        for (int i = 0; i < 6; i++) {
            for (int[] c : constraints) {
                if (c[i] != 0) {
                    used.add(i);
                    break;
                }
            }
        }
        List<long[]> planes = new ArrayList<>();
        for (int[] c : constraints) {
            if (!withCosts && c[8] != 0) continue;
            long[] plane = new long[used.size() + 1];
            for (int i = 0; i < used.size(); i++) plane[i] = c[used.get(i)];
            plane[used.size()] = c[7];
            planes.add(plane);
        }
        for (int i = 0; i < used.size(); i++) {
            for (int limit = -1000; limit <= 1000; limit += 2000) {
                long[] plane = new long[used.size() + 1];
                plane[i] = 1;
                plane[used.size()] = limit;
                planes.add(plane);
            }
        }
        Optimum optimum = new Optimum();
        choose(planes, 0, new ArrayList<>(), used, constraints, withCosts, optimum);
        return optimum;
    }

    private static void choose(List<long[]> planes, int from, List<long[]> chosen, List<Integer> used,
            List<int[]> constraints, boolean withCosts, Optimum optimum) {
        if (chosen.size() == used.size()) {
            judge(solved(chosen, used), constraints, withCosts, optimum);
            return;
        }
        for (int i = from; i < planes.size(); i++) {
            chosen.add(planes.get(i));
            choose(planes, i + 1, chosen, used, constraints, withCosts, optimum);
            chosen.remove(chosen.size() - 1);
        }
    }

    private static void judge(long[] point, List<int[]> constraints, boolean withCosts, Optimum optimum) {
        if (point == null) return;
        long[] costs = {0, 0, 0, point[6]};
        for (int i = 0; i < 6; i++) {
            if (point[i] != Long.MIN_VALUE && Math.abs(point[i]) > 1000 * point[6]) return;
        }
        for (int[] c : constraints) {
            long above = dot(c, point) - c[7] * point[6];
            long violation = c[6] == 0 ? Math.max(above, 0) : c[6] == 2 ? Math.max(-above, 0) : Math.abs(above);
            if (c[8] == 0 && violation != 0) return;
            if (c[8] != 0 && withCosts) costs[c[8] - 1] += c[9] * violation;
        }
        int compared = optimum.costs == null ? -1 : compareCosts(costs, optimum.costs);
        if (compared < 0) {
            optimum.costs = costs;
            optimum.points.clear();
        }
        if (compared <= 0) optimum.points.add(point);
    }

    /** Gauss, with fractions brought to whole numbers row by row; null if the planes do not meet in one point. */
    private static long[] solved(List<long[]> planes, List<Integer> used) {
        int n = used.size();
        long[][] m = new long[n][];
        for (int i = 0; i < n; i++) m[i] = planes.get(i).clone();
        for (int k = 0; k < n; k++) {
            int p = k;
            while (p < n && m[p][k] == 0) p++;
            if (p == n) return null;
            long[] swapped = m[p];
            m[p] = m[k];
            m[k] = swapped;
            for (int i = 0; i < n; i++) if (i != k && m[i][k] != 0) eliminate(m[i], m[k], k);
        }
        long denominator = 1;
        for (int i = 0; i < n; i++) {
            long[] f = lowest(new long[] {m[i][i], Math.abs(denominator)});
            denominator = Math.abs(Math.multiplyExact(denominator, f[0]));
        }
        long[] point = new long[7];
        java.util.Arrays.fill(point, Long.MIN_VALUE);
        for (int i = 0; i < n; i++) point[used.get(i)] = Math.multiplyExact(m[i][n], denominator / m[i][i]);
        point[6] = denominator;
        return point;
    }

    private static void eliminate(long[] row, long[] by, int k) {
        long a = by[k];
        long b = row[k];
        long common = 0;
        for (int j = 0; j < row.length; j++) {
            row[j] = Math.subtractExact(Math.multiplyExact(row[j], a), Math.multiplyExact(by[j], b));
            common = java.math.BigInteger.valueOf(common).gcd(java.math.BigInteger.valueOf(row[j])).longValue();
        }
        for (int j = 0; common > 1 && j < row.length; j++) row[j] /= common;
    }
}

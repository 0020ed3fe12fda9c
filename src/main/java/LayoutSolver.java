/**
 * A solver for layouts that are described by prioritized linear constraints.
 * The document that it follows is ../shared/DOC.md.
 */
public final class LayoutSolver {
    public static final int NO_SUCH = -1, BAD_VALUE = -2, CONFLICT = -3, TOO_MANY = -4, NOT_POSSIBLE = -5, NONE = -6;
    public static final long GONE = -1000000000000000000L;
    public static final int AT_MOST = 0, EQUAL = 1, AT_LEAST = 2;
    public static final int REQUIRED = 0, STRONG = 1, MEDIUM = 2, WEAK = 3;

    private static final int VARIABLES = 6;
    private static final int MOST_CONSTRAINTS = 14;
    private static final int MOST_CHANGES = 20;
    private static final int MOST_CHARACTERS = 40;
    private static final int FIRST_CHARACTER = 33, LAST_CHARACTER = 126;
    private static final int SLOTS = 2;
    private static final int FARTHEST = 1000;
    private static final int MOST_CONSTANT = 200;
    private static final int MOST_COEFFICIENT = 3;
    private static final int MOST_WEIGHT = 5;
    private static final int LONGEST_RANGE = 15;
    private static final int MOST_PLAY = 30;
    private static final int COEFFICIENT_SHIFT = 10;
    private static final int CONSTANT_SHIFT = 1000;
    private static final int NUMBER_SHIFT = 10000;

    private final int[] draft = new int[VARIABLES];
    private final Line text = new Line();
    private final Line spelling = new Line();
    private final Reader reader = new Reader();
    private final Layout layout = new Layout();
    private final Layout[] slots = new Layout[SLOTS];
    private final History history = new History();
    private final Dictionary dictionary = new Dictionary();
    private final Costs present = new Costs();
    private final Costs other = new Costs();
    /** For each variable the constraint that it equals a number, which is told when it is placed. */
    private final Constraint[] pins = new Constraint[VARIABLES];

    public LayoutSolver() {
        for (int i = 0; i < VARIABLES; i++) {
            int[] coefficients = new int[VARIABLES];
            coefficients[i] = 1;
            pins[i] = new Constraint(coefficients, EQUAL, 0, REQUIRED, 1);
        }
    }

    // ---- constraints

    public int term(int variable, int coefficient) {
        if (!isVariable(variable)) {
            return NO_SUCH;
        }
        if (!isWithin(coefficient, MOST_COEFFICIENT)) {
            return BAD_VALUE;
        }
        int previous = draft[variable];
        draft[variable] = coefficient;
        return previous + COEFFICIENT_SHIFT;
    }

    public int add(int relation, int constant, int strength, int weight) {
        if (!isRelation(relation) || !isWithin(constant, MOST_CONSTANT)) {
            return BAD_VALUE;
        }
        if (!isStrength(strength) || !isWeight(weight)) {
            return BAD_VALUE;
        }
        if (isAllZero(draft)) {
            return NOT_POSSIBLE;
        }
        int number = enter(new Constraint(draft.clone(), relation, constant, strength, weight));
        if (number >= 0) {
            clearDraft();
        }
        return number;
    }

    public int remove(int constraint) {
        if (layout.at(constraint) == null) {
            return NO_SUCH;
        }
        change(constraint, null);
        return layout.size();
    }

    public int setConstant(int constraint, int constant) {
        Constraint before = layout.at(constraint);
        if (before == null) {
            return NO_SUCH;
        }
        if (!isWithin(constant, MOST_CONSTANT)) {
            return BAD_VALUE;
        }
        if (!change(constraint, before.withConstant(constant))) {
            return CONFLICT;
        }
        return before.constant + CONSTANT_SHIFT;
    }

    public int setStrength(int constraint, int strength, int weight) {
        Constraint before = layout.at(constraint);
        if (before == null) {
            return NO_SUCH;
        }
        if (!isStrength(strength) || !isWeight(weight)) {
            return BAD_VALUE;
        }
        if (!change(constraint, before.withStrength(strength, weight))) {
            return CONFLICT;
        }
        return before.strength;
    }

    public int about(int constraint, int what) {
        Constraint asked = layout.at(constraint);
        if (asked == null) {
            return NO_SUCH;
        }
        if (isVariable(what)) {
            return asked.coefficient(what) + COEFFICIENT_SHIFT;
        }
        switch (what) {
            case 6:
                return asked.relation;
            case 7:
                return asked.constant + CONSTANT_SHIFT;
            case 8:
                return asked.strength;
            case 9:
                return asked.weight;
            default:
                return BAD_VALUE;
        }
    }

    public int constraints() {
        return layout.mask();
    }

    // ---- texts

    public int say(int character) {
        if (character < FIRST_CHARACTER || character > LAST_CHARACTER) {
            return BAD_VALUE;
        }
        if (text.isFull()) {
            return TOO_MANY;
        }
        text.append((char) character);
        return text.size();
    }

    public int wipe() {
        int length = text.size();
        text.clear();
        return length;
    }

    public int fault() {
        int read = reader.read(text);
        return reader.isAtEnd() && read == text.size() ? NONE : read;
    }

    public int parse() {
        int read = reader.read(text);
        if (read < text.size() || !reader.isAtEnd() || isAllZero(reader.coefficients)) {
            return NOT_POSSIBLE;
        }
        for (int i = 0; i < VARIABLES; i++) {
            if (!isWithin(reader.coefficients[i], MOST_COEFFICIENT)) {
                return BAD_VALUE;
            }
        }
        int number = enter(reader.result());
        if (number >= 0) {
            text.clear();
        }
        return number;
    }

    public int spell(int constraint, int index) {
        Constraint asked = layout.at(constraint);
        if (asked == null) {
            return NO_SUCH;
        }
        asked.writeTo(spelling);
        if (index == -1) {
            return spelling.size();
        }
        return index < 0 || index >= spelling.size() ? NONE : spelling.at(index);
    }

    // ---- undo

    public int undo() {
        Change undone = history.back();
        if (undone == null) {
            return NOT_POSSIBLE;
        }
        put(undone.number, undone.before);
        return 1;
    }

    public int redo() {
        Change redone = history.forth();
        if (redone == null) {
            return NOT_POSSIBLE;
        }
        put(redone.number, redone.after);
        return 1;
    }

    // ---- solutions

    public long cost(int strength, int part) {
        if (!isSoft(strength) || !isPart(part)) {
            return GONE + BAD_VALUE;
        }
        findCosts(present);
        return present.part(strength, part);
    }

    public long low(int variable, int part) {
        return variableAt(variable, 0, part, Dictionary.ALL_LEVELS);
    }

    public long high(int variable, int part) {
        return variableAt(variable, 1, part, Dictionary.ALL_LEVELS);
    }

    public int ambiguous() {
        int found = 0;
        for (int variable = 0; variable < VARIABLES; variable++) {
            if (isAmbiguous(variable)) {
                found |= 1 << variable;
            }
        }
        return found;
    }

    public long value(int constraint, int side, int part) {
        if (layout.at(constraint) == null) {
            return GONE + NO_SUCH;
        }
        if (!isPart(side) || !isPart(part)) {
            return GONE + BAD_VALUE;
        }
        dictionary.goTo(constraint, side == 0, Dictionary.ALL_LEVELS);
        return partOf(dictionary.numerator(constraint), dictionary.denominator(), part);
    }

    public int status(int constraint) {
        Constraint asked = layout.at(constraint);
        if (asked == null) {
            return NO_SUCH;
        }
        dictionary.goTo(constraint, true, Dictionary.ALL_LEVELS);
        int least = dictionary.signOf(constraint);
        dictionary.goTo(constraint, false, Dictionary.ALL_LEVELS);
        int greatest = dictionary.signOf(constraint);
        boolean canBeAbove = asked.relation != AT_LEAST && greatest > 0;
        boolean canBeBelow = asked.relation != AT_MOST && least < 0;
        if (!canBeAbove && !canBeBelow) {
            return 0;
        }
        boolean isAlwaysAbove = asked.relation != AT_LEAST && least > 0;
        boolean isAlwaysBelow = asked.relation != AT_MOST && greatest < 0;
        return isAlwaysAbove || isAlwaysBelow ? 1 : 2;
    }

    public long reach(int variable, int side, int part) {
        return variableAt(variable, side, part, Dictionary.REQUIRED_ALONE);
    }

    public int connected(int variable) {
        if (!isVariable(variable)) {
            return NO_SUCH;
        }
        int found = 1 << variable;
        // Each round that goes on adds a variable, so that as many rounds as variables are enough.
        for (int round = 0; round < VARIABLES; round++) {
            for (int i = 0; i < MOST_CONSTRAINTS; i++) {
                Constraint constraint = layout.at(i);
                if (constraint != null && (constraint.variables() & found) != 0) {
                    found |= constraint.variables();
                }
            }
        }
        return found;
    }

    // ---- what if

    public int blockers(int relation, int constant) {
        if (!isRelation(relation) || !isWithin(constant, MOST_CONSTANT)) {
            return BAD_VALUE;
        }
        if (isAllZero(draft)) {
            return NOT_POSSIBLE;
        }
        dictionary.place(Dictionary.TRIAL, new Constraint(draft, relation, constant, REQUIRED, 1));
        int found = dictionary.isFeasible() ? NONE : remainingBlockers();
        dictionary.lift(Dictionary.TRIAL);
        return found;
    }

    public long force(int variable, int number, int strength, int part) {
        if (!isVariable(variable)) {
            return GONE + NO_SUCH;
        }
        if (!isWithin(number, FARTHEST) || !isSoft(strength) || !isPart(part)) {
            return GONE + BAD_VALUE;
        }
        findCostsAt(variable, number, present);
        return present.isFeasible() ? present.part(strength, part) : GONE + CONFLICT;
    }

    public int best(int variable, int from, int to) {
        if (!isVariable(variable)) {
            return NO_SUCH;
        }
        if (!isWithin(from, FARTHEST) || to < from || to > from + LONGEST_RANGE || to > FARTHEST) {
            return BAD_VALUE;
        }
        int found = NONE;
        for (int number = from; number <= to; number++) {
            findCostsAt(variable, number, other);
            if (other.isFeasible() && (found == NONE || other.compareWith(present) < 0)) {
                found = number + NUMBER_SHIFT;
                present.copy(other);
            }
        }
        return found;
    }

    public int burdens() {
        findCosts(present);
        int found = 0;
        for (int i = 0; i < MOST_CONSTRAINTS; i++) {
            if (layout.at(i) != null) {
                dictionary.lift(i);
                findCosts(other);
                if (other.compareWith(present) < 0) {
                    found |= 1 << i;
                }
                dictionary.place(i, layout.at(i));
            }
        }
        return found;
    }

    public int play(int constraint, int side) {
        Constraint asked = layout.at(constraint);
        if (asked == null) {
            return NO_SUCH;
        }
        if (!isPart(side)) {
            return BAD_VALUE;
        }
        findCosts(present);
        int step = side == 0 ? -1 : 1;
        int reached = asked.constant;
        for (int steps = 0; steps < MOST_PLAY && keepsCosts(constraint, asked, reached + step); steps++) {
            reached += step;
        }
        dictionary.place(constraint, asked);
        return reached + CONSTANT_SHIFT;
    }

    // ---- saving

    public int count(int what) {
        switch (what) {
            case 0:
                return layout.size();
            case 1:
                return text.size();
            case 2:
                return history.done();
            case 3:
                return history.undone();
            case 4:
                return layout.requiredOnes();
            default:
                return BAD_VALUE;
        }
    }

    public int save(int slot) {
        if (slot < 0 || slot >= SLOTS) {
            return BAD_VALUE;
        }
        Layout saved = slots[slot];
        if (saved == null) {
            saved = new Layout();
            slots[slot] = saved;
        }
        for (int i = 0; i < MOST_CONSTRAINTS; i++) {
            saved.put(i, layout.at(i));
        }
        return saved.size();
    }

    public int restore(int slot) {
        if (slot < 0 || slot >= SLOTS) {
            return BAD_VALUE;
        }
        Layout saved = slots[slot];
        if (saved == null) {
            return NOT_POSSIBLE;
        }
        for (int i = 0; i < MOST_CONSTRAINTS; i++) {
            put(i, saved.at(i));
        }
        history.clear();
        return layout.size();
    }

    // ---- arguments

    private static boolean isVariable(int number) {
        return number >= 0 && number < VARIABLES;
    }

    /** Compares on both sides, for the absolute value of the least int is negative. */
    private static boolean isWithin(int number, int most) {
        return number >= -most && number <= most;
    }

    private static boolean isRelation(int number) {
        return number >= AT_MOST && number <= AT_LEAST;
    }

    private static boolean isStrength(int number) {
        return number >= REQUIRED && number <= WEAK;
    }

    private static boolean isSoft(int strength) {
        return strength >= STRONG && strength <= WEAK;
    }

    private static boolean isWeight(int number) {
        return number >= 1 && number <= MOST_WEIGHT;
    }

    /** A side is told by the same two numbers as a part. */
    private static boolean isPart(int number) {
        return number == 0 || number == 1;
    }

    private static boolean isAllZero(int[] coefficients) {
        for (int i = 0; i < coefficients.length; i++) {
            if (coefficients[i] != 0) {
                return false;
            }
        }
        return true;
    }

    // ---- changes

    private void clearDraft() {
        for (int i = 0; i < VARIABLES; i++) {
            draft[i] = 0;
        }
    }

    /** The dictionary follows the layout, whatever changes it. */
    private void put(int number, Constraint constraint) {
        layout.put(number, constraint);
        dictionary.place(number, constraint);
    }

    private int enter(Constraint constraint) {
        int number = layout.lowestFree();
        if (number < 0) {
            return TOO_MANY;
        }
        return change(number, constraint) ? number : CONFLICT;
    }

    /** Refuses a change after which there would be no feasible points: then all is as before. */
    private boolean change(int number, Constraint after) {
        Constraint before = layout.at(number);
        put(number, after);
        if (after != null && after.strength == REQUIRED && !dictionary.isFeasible()) {
            put(number, before);
            return false;
        }
        history.append(new Change(number, before, after));
        return true;
    }

    // ---- points and costs

    private long variableAt(int variable, int side, int part, int levels) {
        if (!isVariable(variable)) {
            return GONE + NO_SUCH;
        }
        if (!isPart(side) || !isPart(part)) {
            return GONE + BAD_VALUE;
        }
        int row = Dictionary.UPPER + variable;
        dictionary.goTo(row, side == 0, levels);
        return partOf(dictionary.numerator(row), dictionary.denominator(), part);
    }

    private boolean isAmbiguous(int variable) {
        int row = Dictionary.UPPER + variable;
        dictionary.goTo(row, true, Dictionary.ALL_LEVELS);
        long least = dictionary.numerator(row);
        long leastDenominator = dictionary.denominator();
        dictionary.goTo(row, false, Dictionary.ALL_LEVELS);
        return least * dictionary.denominator() != dictionary.numerator(row) * leastDenominator;
    }

    private void findCosts(Costs costs) {
        dictionary.settle();
        dictionary.tellCosts(costs);
    }

    private void findCostsAt(int variable, int number, Costs costs) {
        if (isVariable(variable)) {
            dictionary.placeWith(Dictionary.TRIAL, pins[variable], number);
            findCosts(costs);
            dictionary.lift(Dictionary.TRIAL);
        }
    }

    private boolean keepsCosts(int number, Constraint asked, int constant) {
        if (!isWithin(constant, MOST_CONSTANT)) {
            return false;
        }
        dictionary.placeWith(number, asked, constant);
        findCosts(other);
        return other.isFeasible() && other.compareWith(present) == 0;
    }

    /** Expects the new constraint as a trial in the dictionary, and leaves the layout there as it was. */
    private int remainingBlockers() {
        int remaining = 0;
        for (int i = 0; i < MOST_CONSTRAINTS; i++) {
            Constraint constraint = layout.at(i);
            if (constraint != null && constraint.strength == REQUIRED) {
                dictionary.lift(i);
                if (dictionary.isFeasible()) {
                    dictionary.place(i, constraint);
                    remaining |= 1 << i;
                }
            }
        }
        for (int i = 0; i < MOST_CONSTRAINTS; i++) {
            dictionary.place(i, layout.at(i));
        }
        return remaining;
    }

    /** The numerator (part 0) or the denominator of a fraction in lowest terms; expects a positive denominator. */
    private static long partOf(long numerator, long denominator, int part) {
        long divisor = denominator;
        long rest = Math.abs(numerator);
        // Euclid's algorithm at least halves the numbers every two rounds.
        for (int round = 0; round < 200 && rest != 0; round++) {
            long next = divisor % rest;
            divisor = rest;
            rest = next;
        }
        if (divisor <= 0) {
            return part == 0 ? 0 : 1;
        }
        return part == 0 ? numerator / divisor : denominator / divisor;
    }

    /** A constraint; it never changes, so that the layout, the history and the slots may share it. */
    private static final class Constraint {
        final int[] coefficients;
        final int relation;
        final int constant;
        final int strength;
        final int weight;

        Constraint(int[] coefficients, int relation, int constant, int strength, int weight) {
            this.coefficients = coefficients;
            this.relation = relation;
            this.constant = constant;
            this.strength = strength;
            this.weight = weight;
        }

        Constraint withConstant(int newConstant) {
            return new Constraint(coefficients, relation, newConstant, strength, weight);
        }

        Constraint withStrength(int newStrength, int newWeight) {
            return new Constraint(coefficients, relation, constant, newStrength, newWeight);
        }

        int coefficient(int variable) {
            return variable < 0 || variable >= coefficients.length ? 0 : coefficients[variable];
        }

        /** The set of the variables that have a coefficient other than 0. */
        int variables() {
            int found = 0;
            for (int i = 0; i < coefficients.length; i++) {
                if (coefficients[i] != 0) {
                    found |= 1 << i;
                }
            }
            return found;
        }

        /** What a unit of violation costs if the value is greater than the constant. */
        int costAbove() {
            return relation == AT_LEAST ? 0 : weight;
        }

        int costBelow() {
            return relation == AT_MOST ? 0 : weight;
        }

        void writeTo(Line line) {
            line.clear();
            for (int i = 0; i < coefficients.length; i++) {
                if (coefficients[i] != 0) {
                    writeTerm(line, coefficients[i], (char) ('a' + i));
                }
            }
            line.append(relation == AT_MOST ? '<' : relation == EQUAL ? '=' : '>');
            if (constant < 0) {
                line.append('-');
            }
            writeNumber(line, Math.abs(constant));
            if (strength != REQUIRED) {
                line.append('@');
                line.append(strength == STRONG ? 's' : strength == MEDIUM ? 'm' : 'w');
                if (weight != 1) {
                    line.append((char) ('0' + weight));
                }
            }
        }

        private static void writeTerm(Line line, int coefficient, char variable) {
            if (coefficient < 0) {
                line.append('-');
            } else if (line.size() > 0) {
                line.append('+');
            }
            if (Math.abs(coefficient) != 1) {
                line.append((char) ('0' + Math.abs(coefficient)));
            }
            line.append(variable);
        }

        private static void writeNumber(Line line, int number) {
            if (number >= 100) {
                line.append((char) ('0' + number / 100));
            }
            if (number >= 10) {
                line.append((char) ('0' + number / 10 % 10));
            }
            line.append((char) ('0' + number % 10));
        }
    }

    /** The constraints by their numbers. */
    private static final class Layout {
        private final Constraint[] places = new Constraint[MOST_CONSTRAINTS];

        /** Null if there is no such constraint. */
        Constraint at(int number) {
            return number < 0 || number >= MOST_CONSTRAINTS ? null : places[number];
        }

        void put(int number, Constraint constraint) {
            if (number >= 0 && number < MOST_CONSTRAINTS) {
                places[number] = constraint;
            }
        }

        /** NONE if all numbers are taken. */
        int lowestFree() {
            for (int i = 0; i < MOST_CONSTRAINTS; i++) {
                if (places[i] == null) {
                    return i;
                }
            }
            return NONE;
        }

        int mask() {
            int found = 0;
            for (int i = 0; i < MOST_CONSTRAINTS; i++) {
                if (places[i] != null) {
                    found |= 1 << i;
                }
            }
            return found;
        }

        int size() {
            return Integer.bitCount(mask());
        }

        int requiredOnes() {
            int found = 0;
            for (int i = 0; i < MOST_CONSTRAINTS; i++) {
                Constraint constraint = places[i];
                if (constraint != null && constraint.strength == REQUIRED) {
                    found++;
                }
            }
            return found;
        }
    }

    /** What one number stood for before and after a change; null where there was no constraint. */
    private static final class Change {
        final int number;
        final Constraint before;
        final Constraint after;

        Change(int number, Constraint before, Constraint after) {
            this.number = number;
            this.before = before;
            this.after = after;
        }
    }

    /** The changes in the order in which they were made: first those that can be undone, then the undone ones. */
    private static final class History {
        private final Change[] changes = new Change[MOST_CHANGES];
        private int done = 0;
        private int undone = 0;

        int done() {
            return done;
        }

        int undone() {
            return undone;
        }

        void clear() {
            done = 0;
            undone = 0;
        }

        void append(Change change) {
            if (done >= MOST_CHANGES) {
                for (int i = 1; i < MOST_CHANGES; i++) {
                    changes[i - 1] = changes[i];
                }
                done = MOST_CHANGES - 1;
            }
            if (done >= 0) {
                changes[done] = change;
                done++;
                undone = 0;
            }
        }

        /** The change that is to be undone now; null if there is none. */
        Change back() {
            if (done <= 0 || done > MOST_CHANGES) {
                return null;
            }
            done--;
            undone++;
            return changes[done];
        }

        /** The change that is to be redone now; null if there is none. */
        Change forth() {
            if (undone <= 0 || done < 0 || done >= MOST_CHANGES) {
                return null;
            }
            Change redone = changes[done];
            done++;
            undone--;
            return redone;
        }
    }

    /** A row of characters; the longest standard text, 26 of them, is shorter than the longest text. */
    private static final class Line {
        private final char[] characters = new char[MOST_CHARACTERS];
        private int length = 0;

        int size() {
            return length;
        }

        boolean isFull() {
            return length >= MOST_CHARACTERS;
        }

        void clear() {
            length = 0;
        }

        void append(char character) {
            if (length >= 0 && length < MOST_CHARACTERS) {
                characters[length] = character;
                length++;
            }
        }

        /** The sign 0, which no text has, where there is no character. */
        char at(int index) {
            return index < 0 || index >= length || index >= MOST_CHARACTERS ? 0 : characters[index];
        }
    }

    /** Reads the text of a constraint, character by character; from each of its states some correct text goes on. */
    private static final class Reader {
        private static final int BEGIN = 0, TERM = 1, VARIABLE = 2, AFTER_TERM = 3, CONSTANT = 4;
        private static final int NUMBER = 5, DIGITS = 6, STRENGTH = 7, WEIGHT = 8, END = 9;

        final int[] coefficients = new int[VARIABLES];
        private int state = BEGIN;
        private int sign = 1;
        private int factor = 1;
        private int relation = AT_MOST;
        private int constantSign = 1;
        private int number = 0;
        private int strength = REQUIRED;
        private int weight = 1;

        /** Returns how many characters were taken before the first one that no correct text has there. */
        int read(Line text) {
            begin();
            for (int i = 0; i < text.size(); i++) {
                if (!takes(text.at(i))) {
                    return i;
                }
            }
            return text.size();
        }

        /** Whether what was taken is a correct text. */
        boolean isAtEnd() {
            return state == DIGITS || state == WEIGHT || state == END;
        }

        Constraint result() {
            return new Constraint(coefficients.clone(), relation, constantSign * number, strength, weight);
        }

        private void begin() {
            for (int i = 0; i < VARIABLES; i++) {
                coefficients[i] = 0;
            }
            state = BEGIN;
            sign = 1;
            factor = 1;
            constantSign = 1;
            number = 0;
            strength = REQUIRED;
            weight = 1;
        }

        private boolean takes(char character) {
            switch (state) {
                case BEGIN:
                    return takesSign(character, false) || takesFactor(character) || takesVariable(character);
                case TERM:
                    return takesFactor(character) || takesVariable(character);
                case VARIABLE:
                    return takesVariable(character);
                case AFTER_TERM:
                    return takesSign(character, true) || takesRelation(character);
                case CONSTANT:
                    return takesConstantSign(character) || takesDigit(character);
                case NUMBER:
                    return takesDigit(character);
                case DIGITS:
                    return takesAt(character) || takesNextDigit(character);
                case STRENGTH:
                    return takesStrength(character);
                case WEIGHT:
                    return takesWeight(character);
                default:
                    return false;
            }
        }

        private boolean takesSign(char character, boolean plusToo) {
            if (character != '-' && !(plusToo && character == '+')) {
                return false;
            }
            sign = character == '-' ? -1 : 1;
            state = TERM;
            return true;
        }

        private boolean takesFactor(char character) {
            if (character != '2' && character != '3') {
                return false;
            }
            factor = character - '0';
            state = VARIABLE;
            return true;
        }

        private boolean takesVariable(char character) {
            int variable = character - 'a';
            if (variable < 0 || variable >= VARIABLES) {
                return false;
            }
            coefficients[variable] += sign * factor;
            factor = 1;
            state = AFTER_TERM;
            return true;
        }

        private boolean takesRelation(char character) {
            if (character != '<' && character != '=' && character != '>') {
                return false;
            }
            relation = character == '<' ? AT_MOST : character == '=' ? EQUAL : AT_LEAST;
            state = CONSTANT;
            return true;
        }

        private boolean takesConstantSign(char character) {
            if (character != '-') {
                return false;
            }
            constantSign = -1;
            state = NUMBER;
            return true;
        }

        private boolean takesDigit(char character) {
            if (character < '0' || character > '9') {
                return false;
            }
            number = number * 10 + (character - '0');
            state = DIGITS;
            return true;
        }

        /** After a digit; a 0 stands alone. */
        private boolean takesNextDigit(char character) {
            if (number == 0 || number * 10 + (character - '0') > MOST_CONSTANT) {
                return false;
            }
            return takesDigit(character);
        }

        private boolean takesAt(char character) {
            if (character != '@') {
                return false;
            }
            state = STRENGTH;
            return true;
        }

        private boolean takesStrength(char character) {
            if (character != 'r' && character != 's' && character != 'm' && character != 'w') {
                return false;
            }
            strength = character == 'r' ? REQUIRED : character == 's' ? STRONG : character == 'm' ? MEDIUM : WEAK;
            state = strength == REQUIRED ? END : WEIGHT;
            return true;
        }

        private boolean takesWeight(char character) {
            if (character < '1' || character > '0' + MOST_WEIGHT) {
                return false;
            }
            weight = character - '0';
            state = END;
            return true;
        }
    }

    /** The costs of a layout: a sum for each strength, all over the same denominator. */
    private static final class Costs {
        private final long[] sums = new long[WEAK + 1];
        private long denominator = 1;

        void clear(long newDenominator) {
            for (int i = 0; i <= WEAK; i++) {
                sums[i] = 0;
            }
            denominator = newDenominator;
        }

        void increase(int strength, long amount) {
            if (strength >= REQUIRED && strength <= WEAK) {
                sums[strength] += amount;
            }
        }

        void copy(Costs from) {
            for (int i = 0; i <= WEAK; i++) {
                sums[i] = from.sums[i];
            }
            denominator = from.denominator;
        }

        boolean isFeasible() {
            return sums[REQUIRED] == 0;
        }

        long part(int strength, int part) {
            return strength < REQUIRED || strength > WEAK ? 0 : partOf(sums[strength], denominator, part);
        }

        /** Negative if these costs are less. */
        int compareWith(Costs with) {
            for (int i = STRONG; i <= WEAK; i++) {
                int compared = Long.compare(sums[i] * with.denominator, with.sums[i] * denominator);
                if (compared != 0) {
                    return compared;
                }
            }
            return 0;
        }
    }

    /**
     * The simplex method, on all constraints and the limits of the variables at once.
     *
     * Each of them has a row, which tells by how much its value is above its constant (its excess):
     * (row[SHIFT] + the sum of row[k] times the excess that column k stands for) / scale.
     * Excesses of columns are 0 at the present point. A column may also be free: then it stands for
     * a quantity that nobody asks for any more.
     *
     * Violations of what is REQUIRED are costs too, of the first level. So every point may be the
     * present one, and constraints are placed and lifted without a new start.
     *
     * All entries are determinants of at most 7 rows of constraints (so the divisions leave no rest):
     * below 120,000 in the columns and below 10^9 in SHIFT. A product of two fits into a long easily.
     */
    private static final class Dictionary {
        /** How many of the strengths, beginning with REQUIRED, count. */
        static final int REQUIRED_ALONE = 1, ALL_LEVELS = 4;
        /** The rows behind those of the constraints: one for a what-if, then x <= 1000 and x >= -1000. */
        static final int TRIAL = MOST_CONSTRAINTS, UPPER = TRIAL + 1, LOWER = UPPER + VARIABLES;

        private static final int ROWS = LOWER + VARIABLES;
        private static final int COLUMNS = VARIABLES;
        private static final int SHIFT = COLUMNS;
        private static final int FREE = -1;
        private static final int NO_COLUMN = -1;
        /** The level of the aim, behind those of the strengths. */
        private static final int AIM = ALL_LEVELS;
        private static final int NO_AIM = -1;
        /** No run needs a thousandth of it. */
        private static final int MOST_STEPS = 1000000;

        private final long[][] rows = new long[ROWS][COLUMNS + 1];
        private long scale = 1;
        private final boolean[] placed = new boolean[ROWS];
        private final int[] constants = new int[ROWS];
        private final int[] levels = new int[ROWS];
        private final int[] costAbove = new int[ROWS];
        private final int[] costBelow = new int[ROWS];
        /** 1 if a row counts as above its constant, -1 if as below; where its excess is 0, it may be either. */
        private final int[] sides = new int[ROWS];
        private final int[] columnOf = new int[ROWS];
        private final int[] rowOf = new int[COLUMNS];
        private final long[][] slopes = new long[AIM + 1][COLUMNS];
        private int countedLevels = ALL_LEVELS;

        Dictionary() {
            for (int row = 0; row < ROWS; row++) {
                columnOf[row] = NO_COLUMN;
            }
            for (int column = 0; column < COLUMNS; column++) {
                rowOf[column] = FREE;
                startLimit(UPPER + column, column, FARTHEST);
                startLimit(LOWER + column, column, -FARTHEST);
            }
        }

        private void startLimit(int row, int column, int limit) {
            rows[row][column] = 1;
            rows[row][SHIFT] = -limit;
            placed[row] = true;
            constants[row] = limit;
            costAbove[row] = limit > 0 ? 1 : 0;
            costBelow[row] = limit > 0 ? 0 : 1;
            sides[row] = limit > 0 ? -1 : 1;
        }

        /** Gives a row to a constraint, instead of what had it; null leaves it empty. */
        void place(int row, Constraint constraint) {
            if (constraint == null) {
                lift(row);
            } else {
                placeWith(row, constraint, constraint.constant);
            }
        }

        /** The same with another constant; it makes no object, for what-ifs go through many. */
        void placeWith(int row, Constraint constraint, int constant) {
            lift(row);
            if (row < 0 || row > TRIAL || constraint == null) {
                return;
            }
            long[] entries = rows[row];
            for (int k = 0; k <= COLUMNS; k++) {
                entries[k] = 0;
            }
            entries[SHIFT] = -scale * constant;
            for (int variable = 0; variable < VARIABLES; variable++) {
                addVariable(entries, constraint.coefficient(variable), variable);
            }
            placed[row] = true;
            constants[row] = constant;
            levels[row] = constraint.strength;
            costAbove[row] = constraint.costAbove();
            costBelow[row] = constraint.costBelow();
            sides[row] = entries[SHIFT] < 0 ? -1 : 1;
        }

        /** A variable is what its upper limit's row tells, plus that limit. */
        private void addVariable(long[] entries, int coefficient, int variable) {
            if (coefficient == 0 || variable < 0 || variable >= VARIABLES || entries.length <= COLUMNS) {
                return;
            }
            long[] excess = rows[UPPER + variable];
            for (int k = 0; k <= COLUMNS; k++) {
                entries[k] += coefficient * excess[k];
            }
            entries[SHIFT] += coefficient * FARTHEST * scale;
        }

        void lift(int row) {
            if (row < 0 || row > TRIAL) {
                return;
            }
            int column = columnOf[row];
            if (column >= 0 && column < COLUMNS) {
                rowOf[column] = FREE;
            }
            columnOf[row] = NO_COLUMN;
            placed[row] = false;
        }

        /** Whether there is a point without violations of what is REQUIRED. */
        boolean isFeasible() {
            descend(NO_AIM, 1, REQUIRED_ALONE);
            long violations = 0;
            for (int row = 0; row < ROWS; row++) {
                if (placed[row] && levels[row] == REQUIRED) {
                    violations += costOf(row);
                }
            }
            return violations == 0;
        }

        void tellCosts(Costs costs) {
            costs.clear(scale);
            for (int row = 0; row < ROWS; row++) {
                if (placed[row]) {
                    costs.increase(levels[row], costOf(row));
                }
            }
        }

        private long costOf(int row) {
            if (row < 0 || row >= ROWS) {
                return 0;
            }
            long excess = rows[row][SHIFT];
            return excess > 0 ? costAbove[row] * excess : costBelow[row] * -excess;
        }

        long denominator() {
            return scale;
        }

        /** The numerator of the value of a row at the present point. */
        long numerator(int row) {
            return row < 0 || row >= ROWS ? 0 : rows[row][SHIFT] + constants[row] * scale;
        }

        /** Negative, 0 or positive, as the excess of a row at the present point. */
        int signOf(int row) {
            return row < 0 || row >= ROWS ? 0 : Long.compare(rows[row][SHIFT], 0);
        }

        /** Goes to an optimal point, or, if none is feasible, to one with the least violation of what is REQUIRED. */
        void settle() {
            descend(NO_AIM, 1, ALL_LEVELS);
        }

        /** Goes to a point at which the value of a row is least or greatest, of those with the least costs. */
        void goTo(int row, boolean isLeast, int levelsThatCount) {
            descend(row < 0 || row >= ROWS ? NO_AIM : row, isLeast ? 1 : -1, levelsThatCount);
        }

        /**
         * Bland's rule (of the columns that lead to less, and of the rows that are met first, always the
         * one of lowest number) lets no sequence of exchanges come back to where it was.
         */
        private void descend(int aim, int aimSign, int levelsThatCount) {
            countedLevels = levelsThatCount;
            for (int step = 0; step < MOST_STEPS; step++) {
                findSlopes(aim, aimSign);
                int column = enteringColumn();
                if (column < 0) {
                    return;
                }
                int direction = directionOf(column);
                int row = leavingRow(column, direction);
                if (row < 0) {
                    return;
                }
                exchange(row, column, direction);
            }
        }

        private void findSlopes(int aim, int aimSign) {
            for (int level = 0; level <= AIM; level++) {
                for (int k = 0; k < COLUMNS; k++) {
                    slopes[level][k] = 0;
                }
            }
            for (int row = 0; row < ROWS; row++) {
                if (placed[row] && columnOf[row] == NO_COLUMN && levels[row] < countedLevels) {
                    addSlopes(levels[row], row, sides[row] > 0 ? costAbove[row] : -costBelow[row]);
                }
            }
            if (aim != NO_AIM) {
                addSlopes(AIM, aim, aimSign);
            }
        }

        private void addSlopes(int level, int row, int factor) {
            if (factor == 0 || level < 0 || level > AIM || row < 0 || row >= ROWS) {
                return;
            }
            for (int k = 0; k < COLUMNS; k++) {
                slopes[level][k] += factor * rows[row][k];
            }
        }

        private int enteringColumn() {
            int found = NO_COLUMN;
            for (int column = 0; column < COLUMNS; column++) {
                if ((found < 0 || rowOf[column] < rowOf[found]) && directionOf(column) != 0) {
                    found = column;
                }
            }
            return found;
        }

        /** 1 if it leads to less when the excess of a column grows, -1 if when it shrinks, 0 if neither. */
        private int directionOf(int column) {
            if (column < 0 || column >= COLUMNS) {
                return 0;
            }
            int row = rowOf[column];
            boolean hasCosts = row >= 0 && row < ROWS && levels[row] < countedLevels;
            int growing = 0;
            int shrinking = 0;
            for (int level = 0; level <= AIM; level++) {
                boolean isOwn = hasCosts && levels[row] == level;
                long slope = slopes[level][column];
                if (growing == 0) {
                    growing = Long.compare(isOwn ? slope + scale * costAbove[row] : slope, 0);
                }
                if (shrinking == 0) {
                    shrinking = Long.compare(isOwn ? scale * costBelow[row] - slope : -slope, 0);
                }
            }
            return growing < 0 ? 1 : shrinking < 0 ? -1 : 0;
        }

        /** The row whose excess becomes 0 first; the limits of the variables see to it that there is one. */
        private int leavingRow(int column, int direction) {
            int found = -1;
            long least = 0;
            long leastSpeed = 1;
            if (column < 0 || column >= COLUMNS) {
                return found;
            }
            for (int row = 0; row < ROWS; row++) {
                if (placed[row] && columnOf[row] == NO_COLUMN) {
                    long speed = -sides[row] * direction * rows[row][column];
                    long distance = Math.abs(rows[row][SHIFT]);
                    if (speed > 0 && (found < 0 || distance * leastSpeed < least * speed)) {
                        found = row;
                        least = distance;
                        leastSpeed = speed;
                    }
                }
            }
            return found;
        }

        private void exchange(int leaving, int column, int direction) {
            if (leaving < 0 || leaving >= ROWS || column < 0 || column >= COLUMNS) {
                return;
            }
            long[] leavingEntries = rows[leaving];
            long newScale = Math.abs(leavingEntries[column]);
            if (newScale == 0) {
                return;
            }
            for (int row = 0; row < ROWS; row++) {
                if (placed[row] && row != leaving) {
                    substitute(rows[row], leavingEntries, column);
                }
            }
            for (int k = 0; k <= COLUMNS; k++) {
                leavingEntries[k] = 0;
            }
            leavingEntries[column] = newScale;
            scale = newScale;
            int entering = rowOf[column];
            if (entering >= 0 && entering < ROWS) {
                columnOf[entering] = NO_COLUMN;
                sides[entering] = direction;
            }
            rowOf[column] = leaving;
            columnOf[leaving] = column;
        }

        /** Writes a row with the leaving row's excess in the place of the column's. */
        private void substitute(long[] entries, long[] leavingEntries, int column) {
            if (column < 0 || column >= COLUMNS || entries.length <= COLUMNS || leavingEntries.length <= COLUMNS) {
                return;
            }
            long pivot = leavingEntries[column];
            long newScale = pivot < 0 ? -pivot : pivot;
            long factor = pivot < 0 ? -entries[column] : entries[column];
            if (scale == 0 || factor == 0 && newScale == scale) {
                return;
            }
            for (int k = 0; k <= COLUMNS; k++) {
                entries[k] = (entries[k] * newScale - factor * leavingEntries[k]) / scale;
            }
            entries[column] = factor;
        }
    }
}

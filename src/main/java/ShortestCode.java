/**
 * A bench for the shortest code: programs of a few operations on small words, a table of what is
 * wanted for all inputs, and a search for the cheapest program that does it.
 *
 * <p>Words in capitals are those of the document (DOC.md). Answers below 0 are refusals.
 */
public final class ShortestCode {
    private static final int NONE = -1;
    private static final int OUTSIDE = -2;
    private static final int NOT_NOW = -3;
    private static final int NO_ROOM = -4;
    private static final int NOT_THERE = -5;
    private static final int SPENT = -6;

    private static final int MOST_BITS = 4;
    private static final int MOST_INPUTS = 2;
    private static final int MOST_CONSTANTS = 4;
    private static final int MOST_INSTRUCTIONS = 12;
    private static final int MOST_VALUES = MOST_INPUTS + MOST_CONSTANTS + MOST_INSTRUCTIONS;
    private static final int MOST_ASSIGNMENTS = 1 << (MOST_BITS * MOST_INPUTS);

    private static final int DEAREST_OPERATION = 9;
    private static final int DEAREST_SEARCH = 30;
    private static final int MOST_TRIES = 30000;

    private static final int NOT = 0;
    private static final int NEG = 1;
    private static final int AND = 2;
    private static final int OR = 3;
    private static final int XOR = 4;
    private static final int PLUS = 5;
    private static final int MINUS = 6;
    private static final int TIMES = 7;
    private static final int LEFT = 8;
    private static final int RIGHT = 9;
    private static final int RIGHT_SIGNED = 10;
    private static final int LESS = 11;
    private static final int ALIKE = 12;
    private static final int OPERATIONS = 13;

    /** How differ() is told to take TARGET as the second one. */
    private static final int TARGET = -2;

    private final int[] costs = new int[OPERATIONS];
    private final int[] target = new int[MOST_ASSIGNMENTS];
    private final Values values = new Values();
    private final Row program = new Row();
    private final Row found = new Row();
    private final boolean[] needed = new boolean[MOST_VALUES];
    private final Hunt hunt = new Hunt();
    private boolean anyFound;

    public ShortestCode() {
        for (int operation = 0; operation < OPERATIONS; operation++) {
            costs[operation] = 1;
        }
        values.setInputs(MOST_BITS, 1);
    }

    public int words(int w, int n) {
        if (w < 1 || w > MOST_BITS || n < 1 || n > MOST_INPUTS) {
            return OUTSIDE;
        }
        values.setInputs(w, n);
        program.empty(0);
        for (int s = 0; s < MOST_ASSIGNMENTS; s++) {
            target[s] = 0;
        }
        anyFound = false;
        return values.assignments;
    }

    public int constant(int c) {
        if (!values.isWord(c)) {
            return OUTSIDE;
        }
        if (program.length > 0) {
            return NOT_NOW;
        }
        if (values.constants >= MOST_CONSTANTS) {
            return NO_ROOM;
        }
        values.appendConstant(c);
        anyFound = false;
        return values.given() - 1;
    }

    public int cost(int operation, int c) {
        if (!isOperation(operation)) {
            return NONE;
        }
        if (c < 0 || c > DEAREST_OPERATION) {
            return OUTSIDE;
        }
        int old = costs[operation];
        costs[operation] = c;
        return old;
    }

    public int target(int assignment, int v) {
        if (!values.isAssignment(assignment)) {
            return NONE;
        }
        if (!values.isWord(v)) {
            return OUTSIDE;
        }
        int old = target[assignment];
        target[assignment] = v;
        return old;
    }

    public int aim() {
        int[] aimed = values.rows[program.result];
        int changed = 0;
        for (int s = 0; s < values.assignments; s++) {
            if (target[s] != aimed[s]) {
                target[s] = aimed[s];
                changed++;
            }
        }
        return changed;
    }

    public int add(int operation, int a, int b) {
        if (!isOperation(operation) || !isValue(a) || !isValue(b)) {
            return NONE;
        }
        if (program.length >= MOST_INSTRUCTIONS) {
            return NO_ROOM;
        }
        int number = valueCount();
        program.put(program.length, operation, a, takesOne(operation) ? 0 : b);
        program.length++;
        program.result = number;
        makeFrom(program.length - 1);
        return number;
    }

    public int drop() {
        if (program.length < 1) {
            return NOT_NOW;
        }
        program.length--;
        if (program.result == valueCount()) {
            program.result = 0;
        }
        return program.length;
    }

    public int result(int value) {
        if (!isValue(value)) {
            return NONE;
        }
        int old = program.result;
        program.result = value;
        return old;
    }

    public int instruction(int k, int what) {
        if (k < 0 || k >= program.length) {
            return NONE;
        }
        switch (what) {
            case 0:
                return program.operations[k];
            case 1:
                return program.lefts[k];
            case 2:
                return program.rights[k];
            default:
                return OUTSIDE;
        }
    }

    public int count(int what) {
        switch (what) {
            case 0:
                return values.bits;
            case 1:
                return values.inputs;
            case 2:
                return values.constants;
            case 3:
                return program.length;
            case 4:
                return program.result;
            case 5:
                return programCost();
            default:
                return OUTSIDE;
        }
    }

    public int value(int value, int assignment) {
        if (!isValue(value) || !values.isAssignment(assignment)) {
            return NONE;
        }
        return values.rows[value][assignment];
    }

    public int differ(int one, int other) {
        if (!isValue(one) || (other != TARGET && !isValue(other))) {
            return NONE;
        }
        int[] second = other == TARGET ? target : values.rows[other];
        int at = values.firstDifference(values.rows[one], second);
        return at < 0 ? NOT_THERE : at;
    }

    public int clean() {
        int before = program.length;
        // A step takes one INSTRUCTION out, so there are never more steps than these.
        for (int step = 0; step < before; step++) {
            if (!takeOutRepeated() && !takeOutNeedless()) {
                break;
            }
        }
        return before - program.length;
    }

    public int search(int cost, int tries, int all) {
        if (cost < 0 || cost > DEAREST_SEARCH || tries < 0 || tries > MOST_TRIES) {
            return OUTSIDE;
        }
        if (all != 0 && all != 1) {
            return OUTSIDE;
        }
        hunt.prepare(values, costs, target);
        int answer = hunt.run(cost, tries, all == 1);
        if (answer >= 0) {
            found.copyFrom(hunt.first);
            anyFound = true;
        }
        return answer;
    }

    public int told(int what) {
        switch (what) {
            case 0:
                return hunt.tries;
            case 1:
                return hunt.rounds;
            case 2:
                return hunt.hits;
            case 3:
                return hunt.answer;
            default:
                return OUTSIDE;
        }
    }

    public int take() {
        if (!anyFound) {
            return NOT_NOW;
        }
        program.copyFrom(found);
        makeFrom(0);
        return program.length;
    }

    private static boolean isOperation(int operation) {
        return operation >= 0 && operation < OPERATIONS;
    }

    /** Whether b counts for nothing. */
    private static boolean takesOne(int operation) {
        return operation == NOT || operation == NEG;
    }

    /** Whether the search passes over a above b, since a and b can change places. */
    private static boolean isOrdered(int operation) {
        switch (operation) {
            case AND:
            case OR:
            case XOR:
            case PLUS:
            case TIMES:
            case ALIKE:
                return true;
            default:
                return false;
        }
    }

    private int valueCount() {
        return values.given() + program.length;
    }

    private boolean isValue(int number) {
        return number >= 0 && number < valueCount();
    }

    private int programCost() {
        int sum = 0;
        for (int k = 0; k < program.length; k++) {
            sum += costs[program.operations[k]];
        }
        return sum;
    }

    /** Runs THE PROGRAM from INSTRUCTION k on; what stands before it must be made already. */
    private void makeFrom(int k) {
        int given = values.given();
        for (int i = k; i < program.length; i++) {
            values.make(given + i, program.operations[i], program.lefts[i], program.rights[i]);
        }
    }

    private boolean takeOutRepeated() {
        int given = values.given();
        for (int k = 0; k < program.length; k++) {
            int same = values.leastSame(given + k);
            if (same >= 0) {
                takeOut(k, same);
                return true;
            }
        }
        return false;
    }

    private boolean takeOutNeedless() {
        markNeeded();
        int given = values.given();
        for (int k = program.length - 1; k >= 0; k--) {
            if (!needed[given + k]) {
                // Nothing has its VALUE: all behind it is needed and would make it needed too.
                takeOut(k, 0);
                return true;
            }
        }
        return false;
    }

    private void takeOut(int k, int instead) {
        program.remove(k, values.given() + k, instead);
        makeFrom(k);
    }

    private void markNeeded() {
        for (int i = 0; i < MOST_VALUES; i++) {
            needed[i] = false;
        }
        needed[program.result] = true;
        int given = values.given();
        for (int k = program.length - 1; k >= 0; k--) {
            if (needed[given + k]) {
                needed[program.lefts[k]] = true;
                needed[program.rights[k]] = true;
            }
        }
    }

    /** INSTRUCTIONS one behind the other, and which VALUE is RESULT. */
    private static final class Row {
        private final int[] operations = new int[MOST_INSTRUCTIONS];
        private final int[] lefts = new int[MOST_INSTRUCTIONS];
        private final int[] rights = new int[MOST_INSTRUCTIONS];
        private int length;
        private int result;

        private void empty(int newResult) {
            length = 0;
            result = newResult;
        }

        private void put(int place, int operation, int a, int b) {
            operations[place] = operation;
            lefts[place] = a;
            rights[place] = b;
        }

        private void copyFrom(Row other) {
            for (int k = 0; k < other.length; k++) {
                put(k, other.operations[k], other.lefts[k], other.rights[k]);
            }
            length = other.length;
            result = other.result;
        }

        /** Takes INSTRUCTION k out, whose VALUE has this number; who had it has another instead. */
        private void remove(int k, int number, int instead) {
            for (int i = k + 1; i < length; i++) {
                int a = renumbered(lefts[i], number, instead);
                int b = renumbered(rights[i], number, instead);
                put(i - 1, operations[i], a, b);
            }
            length--;
            result = renumbered(result, number, instead);
        }

        private static int renumbered(int value, int gone, int instead) {
            if (value == gone) {
                return instead;
            }
            return value > gone ? value - 1 : value;
        }
    }

    /** W, INPUTS and CONSTANTS, and what every VALUE is for all ASSIGNMENTS. */
    private static final class Values {
        private final int[][] rows = new int[MOST_VALUES][MOST_ASSIGNMENTS];
        private int bits = 1;
        private int mask = 1;
        private int inputs = 1;
        private int constants;
        private int assignments = 2;

        private void setInputs(int w, int n) {
            bits = w;
            mask = (1 << w) - 1;
            inputs = n;
            constants = 0;
            assignments = 1 << (w * n);
            for (int i = 0; i < n; i++) {
                for (int s = 0; s < assignments; s++) {
                    rows[i][s] = (s >> (w * i)) & mask;
                }
            }
        }

        private void appendConstant(int c) {
            int[] row = rows[given()];
            for (int s = 0; s < assignments; s++) {
                row[s] = c;
            }
            constants++;
        }

        private void copyGiven(Values other) {
            bits = other.bits;
            mask = other.mask;
            inputs = other.inputs;
            constants = other.constants;
            assignments = other.assignments;
            for (int i = 0; i < given(); i++) {
                System.arraycopy(other.rows[i], 0, rows[i], 0, assignments);
            }
        }

        private int given() {
            return inputs + constants;
        }

        private boolean isWord(int v) {
            return v >= 0 && v <= mask;
        }

        private boolean isAssignment(int s) {
            return s >= 0 && s < assignments;
        }

        private void make(int number, int operation, int a, int b) {
            int[] left = rows[a];
            int[] right = rows[b];
            int[] made = rows[number];
            for (int s = 0; s < assignments; s++) {
                made[s] = reckon(operation, left[s], right[s]);
            }
        }

        /** Whether an INSTRUCTION makes what is wanted; it is made no further than it agrees. */
        private boolean makes(int[] wanted, int operation, int a, int b) {
            int[] left = rows[a];
            int[] right = rows[b];
            for (int s = 0; s < assignments; s++) {
                if (reckon(operation, left[s], right[s]) != wanted[s]) {
                    return false;
                }
            }
            return true;
        }

        private int firstDifference(int[] one, int[] other) {
            for (int s = 0; s < assignments; s++) {
                if (one[s] != other[s]) {
                    return s;
                }
            }
            return NONE;
        }

        /** The least VALUE below end that is the same as this row everywhere, or NONE. */
        private int leastBelow(int end, int[] row) {
            for (int i = 0; i < end; i++) {
                if (firstDifference(rows[i], row) < 0) {
                    return i;
                }
            }
            return NONE;
        }

        private int leastSame(int number) {
            return leastBelow(number, rows[number]);
        }

        private int reckon(int operation, int a, int b) {
            switch (operation) {
                case NOT:
                    return ~a & mask;
                case NEG:
                    return -a & mask;
                case AND:
                    return a & b;
                case OR:
                    return a | b;
                case XOR:
                    return a ^ b;
                case PLUS:
                    return (a + b) & mask;
                case MINUS:
                    return (a - b) & mask;
                case TIMES:
                    return (a * b) & mask;
                case LEFT:
                    return (a << distance(b)) & mask;
                case RIGHT:
                    return a >> distance(b);
                case RIGHT_SIGNED:
                    return (signed(a) >> distance(b)) & mask;
                case LESS:
                    return a < b ? 1 : 0;
                case ALIKE:
                    return a == b ? 1 : 0;
                default:
                    return 0;
            }
        }

        private int distance(int b) {
            return bits < 1 ? 0 : b % bits;
        }

        /** The WORD with its highest bit in all bits above it. */
        private int signed(int a) {
            return a >> (bits - 1) == 0 ? a : a | ~mask;
        }
    }

    /** THE SEARCH, and what is told of the latest one. */
    private static final class Hunt {
        private final int[] costs = new int[OPERATIONS];
        private final int[] target = new int[MOST_ASSIGNMENTS];
        private final Values values = new Values();
        private final Row row = new Row();
        private final Row first = new Row();
        private int mostTries;
        private boolean wantsAll;
        private boolean spent;
        private int tries;
        private int rounds;
        private int hits;
        private int answer = NOT_NOW;

        private void prepare(Values from, int[] newCosts, int[] newTarget) {
            values.copyGiven(from);
            System.arraycopy(newCosts, 0, costs, 0, OPERATIONS);
            System.arraycopy(newTarget, 0, target, 0, MOST_ASSIGNMENTS);
        }

        private int run(int mostCost, int triesAllowed, boolean all) {
            mostTries = triesAllowed;
            wantsAll = all;
            spent = false;
            tries = 0;
            rounds = 0;
            hits = 0;
            findGiven();
            int reached = 0;
            for (int total = 1; total <= mostCost && hits == 0 && !spent; total++) {
                rounds++;
                reached = total;
                fill(0, total);
            }
            if (spent) {
                answer = SPENT;
            } else {
                answer = hits == 0 ? NOT_THERE : reached;
            }
            return answer;
        }

        /** COST 0: it counts as one, however many INPUTS and CONSTANTS are TARGET. */
        private void findGiven() {
            int least = values.leastBelow(values.given(), target);
            if (least >= 0) {
                first.empty(least);
                hits = 1;
            }
        }

        private boolean isOver() {
            return spent || (hits > 0 && !wantsAll);
        }

        private void fill(int place, int left) {
            if (place >= MOST_INSTRUCTIONS) {
                return;
            }
            for (int operation = 0; operation < OPERATIONS && !isOver(); operation++) {
                int cost = costs[operation];
                if (cost > 0 && cost <= left) {
                    fillWith(operation, place, left - cost);
                }
            }
        }

        private void fillWith(int operation, int place, int left) {
            int end = values.given() + place;
            int endOfB = takesOne(operation) ? 1 : end;
            boolean ordered = isOrdered(operation);
            for (int a = 0; a < end; a++) {
                for (int b = ordered ? a : 0; b < endOfB; b++) {
                    if (isOver()) {
                        return;
                    }
                    attempt(place, operation, a, b, left);
                }
            }
        }

        /** A TRY; left is what is left of the total behind it. */
        private void attempt(int place, int operation, int a, int b, int left) {
            if (tries >= mostTries) {
                spent = true;
                return;
            }
            tries++;
            row.put(place, operation, a, b);
            int number = values.given() + place;
            if (left == 0) {
                if (values.makes(target, operation, a, b)) {
                    hit(place, number);
                }
                return;
            }
            values.make(number, operation, a, b);
            if (values.leastSame(number) < 0) {
                fill(place + 1, left);
            }
        }

        private void hit(int place, int number) {
            hits++;
            if (hits == 1) {
                row.length = place + 1;
                row.result = number;
                first.copyFrom(row);
            }
        }
    }
}

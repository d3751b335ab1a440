/** Promises 1 to 13: WORDS, CONSTANTS, COSTS, TARGET and THE PROGRAM at hand. */
public final class BenchTest {
    private static final Check check = new Check("BenchTest");
    private static final int MIN = Integer.MIN_VALUE;
    private static final int MAX = Integer.MAX_VALUE;

    public static void main(String[] args) {
        newObject();
        words();
        wordsForget();
        constant();
        cost();
        target();
        aim();
        add();
        operations();
        narrowWords();
        drop();
        result();
        instruction();
        count();
        value();
        differ();
        check.end();
    }

    private static void newObject() {
        ShortestCode x = new ShortestCode();
        check.due("1 count(0)", x.count(0), 4);
        check.due("1 count(1)", x.count(1), 1);
        check.due("1 count(2)", x.count(2), 0);
        check.program("1 new", x, 0);
        check.due("1 count(5)", x.count(5), 0);
        for (int s = 0; s < 16; s++) {
            check.due("1 value(0, " + s + ")", x.value(0, s), s);
            check.due("1 target(" + s + ", 0)", x.target(s, 0), 0);
        }
        check.due("1 value(0, 16)", x.value(0, 16), -1);
        check.due("1 value(1, 0)", x.value(1, 0), -1);
        for (int operation = 0; operation < 13; operation++) {
            check.due("1 cost(" + operation + ", 1)", x.cost(operation, 1), 1);
        }
        check.due("1 take()", x.take(), -3);
        check.told("1 new", x, 0, 0, 0, -3);
    }

    private static void words() {
        int[][] dues = {{1, 1, 2}, {2, 1, 4}, {3, 1, 8}, {4, 1, 16}, {1, 2, 4}, {2, 2, 16}, {3, 2, 64}, {4, 2, 256}};
        for (int[] due : dues) {
            // Two of them: no object is asked more than 512 times.
            ShortestCode one = new ShortestCode();
            ShortestCode other = new ShortestCode();
            check.due("2 words(" + due[0] + ", " + due[1] + ")", one.words(due[0], due[1]), due[2]);
            check.due("2 words(" + due[0] + ", " + due[1] + ")", other.words(due[0], due[1]), due[2]);
            check.due("2 count(0)", one.count(0), due[0]);
            check.due("2 count(1)", one.count(1), due[1]);
            int mask = (1 << due[0]) - 1;
            for (int s = 0; s < due[2]; s++) {
                check.due("2 value(0, " + s + ")", one.value(0, s), s & mask);
                check.due("2 value(1, " + s + ")", other.value(1, s), due[1] == 2 ? s >> due[0] : -1);
            }
            check.due("2 value(0, end)", one.value(0, due[2]), -1);
        }
        ShortestCode x = new ShortestCode();
        int[][] wrong = {
            {0, 1}, {5, 1}, {-1, 1}, {MIN, 1}, {MAX, 2}, {4, 0}, {4, 3}, {4, -1}, {4, MIN}, {4, MAX}, {0, 0}};
        x.words(3, 2);
        x.constant(5);
        x.add(0, 0, 0);
        x.aim();
        x.search(1, 100, 0);
        for (int[] w : wrong) {
            check.due("2 words(" + w[0] + ", " + w[1] + ")", x.words(w[0], w[1]), -2);
        }
        check.due("2 refused: count(0)", x.count(0), 3);
        check.due("2 refused: count(1)", x.count(1), 2);
        check.due("2 refused: count(2)", x.count(2), 1);
        check.program("2 refused", x, 3, 0, 0, 0);
        check.due("2 refused: target", x.differ(3, -2), -5);
        check.due("2 refused: take()", x.take(), 1);
    }

    private static void wordsForget() {
        ShortestCode x = Bench.of(2, 2, 3, 1);
        x.cost(5, 7);
        x.cost(6, 0);
        x.add(3, 0, 1);
        x.aim();
        check.due("2 search", x.search(2, 1000, 0), 1);
        check.due("2 words(2, 2) again", x.words(2, 2), 16);
        check.due("2 count(2)", x.count(2), 0);
        check.program("2 words() again", x, 0);
        for (int s = 0; s < 16; s++) {
            check.due("2 target", x.target(s, 0), 0);
        }
        check.due("2 take()", x.take(), -3);
        check.due("2 cost stays", x.cost(5, 1), 7);
        check.due("2 cost stays", x.cost(6, 1), 0);
        // told() speaks of the latest search(), and words() is none.
        check.due("2 told(3)", x.told(3), 1);
        x.constant(2);
        x.result(2);
        x.words(4, 1);
        check.due("2 RESULT", x.count(4), 0);
        // TARGET's words of a wider setting do not come back.
        x.words(4, 2);
        x.target(255, 9);
        x.words(1, 1);
        x.words(4, 2);
        check.due("2 target(255, 0)", x.target(255, 0), 0);
    }

    private static void constant() {
        ShortestCode x = Bench.of(3, 2);
        check.due("3 constant(-1)", x.constant(-1), -2);
        check.due("3 constant(8)", x.constant(8), -2);
        check.due("3 constant(MIN)", x.constant(MIN), -2);
        check.due("3 constant(MAX)", x.constant(MAX), -2);
        check.due("3 constant(7)", x.constant(7), 2);
        check.due("3 constant(0)", x.constant(0), 3);
        check.due("3 constant(7) again", x.constant(7), 4);
        check.due("3 RESULT stays", x.count(4), 0);
        check.due("3 add", x.add(0, 0, 0), 5);
        check.due("3 with instructions", x.constant(1), -3);
        check.due("3 -2 before -3", x.constant(8), -2);
        check.due("3 drop", x.drop(), 0);
        check.due("3 the fourth", x.constant(1), 5);
        check.due("3 a fifth", x.constant(1), -4);
        check.due("3 -2 before -4", x.constant(9), -2);
        x.add(1, 0, 0);
        check.due("3 -3 before -4", x.constant(1), -3);
        check.due("3 count(2)", x.count(2), 4);
        int[] due = {7, 0, 7, 1};
        for (int i = 0; i < 4; i++) {
            for (int s = 0; s < 64; s++) {
                check.due("3 value(" + (2 + i) + ", " + s + ")", x.value(2 + i, s), due[i]);
            }
        }
        foundIsGone();
    }

    private static void foundIsGone() {
        ShortestCode x = Bench.of(3, 1);
        x.target(0, 1);
        x.target(5, 3);
        check.due("3 target that nobody makes", x.search(1, 100, 0), -5);
        for (int s = 0; s < 8; s++) {
            x.target(s, s);
        }
        check.due("3 search", x.search(0, 0, 0), 0);
        check.due("3 refused", x.constant(8), -2);
        check.due("3 refused keeps FOUND", x.take(), 0);
        check.due("3 constant(4)", x.constant(4), 1);
        check.due("3 FOUND is gone", x.take(), -3);
        check.due("3 TARGET stays", x.differ(0, -2), -5);
    }

    private static void cost() {
        ShortestCode x = new ShortestCode();
        check.due("4 cost(3, 9)", x.cost(3, 9), 1);
        check.due("4 cost(3, 0)", x.cost(3, 0), 9);
        check.due("4 cost(3, 4)", x.cost(3, 4), 0);
        check.due("4 cost(12, 2)", x.cost(12, 2), 1);
        check.due("4 cost(0, 5)", x.cost(0, 5), 1);
        check.due("4 cost(3, 10)", x.cost(3, 10), -2);
        check.due("4 cost(3, -1)", x.cost(3, -1), -2);
        check.due("4 cost(3, MIN)", x.cost(3, MIN), -2);
        check.due("4 cost(3, MAX)", x.cost(3, MAX), -2);
        check.due("4 cost(13, 1)", x.cost(13, 1), -1);
        check.due("4 cost(-1, 1)", x.cost(-1, 1), -1);
        check.due("4 cost(MIN, 1)", x.cost(MIN, 1), -1);
        check.due("4 cost(MAX, 1)", x.cost(MAX, 1), -1);
        check.due("4 -1 before -2", x.cost(13, 10), -1);
        check.due("4 refusals change nothing", x.cost(3, 4), 4);
        check.due("4 the last", x.cost(12, 2), 2);
        check.due("4 the first", x.cost(0, 5), 5);
        check.due("4 another", x.cost(1, 1), 1);
    }

    private static void target() {
        ShortestCode x = Bench.of(2, 2);
        check.due("5 target(15, 3)", x.target(15, 3), 0);
        check.due("5 target(15, 2)", x.target(15, 2), 3);
        check.due("5 target(0, 1)", x.target(0, 1), 0);
        check.due("5 target(16, 0)", x.target(16, 0), -1);
        check.due("5 target(-1, 0)", x.target(-1, 0), -1);
        check.due("5 target(MIN, 0)", x.target(MIN, 0), -1);
        check.due("5 target(MAX, 0)", x.target(MAX, 0), -1);
        check.due("5 target(0, 4)", x.target(0, 4), -2);
        check.due("5 target(0, -1)", x.target(0, -1), -2);
        check.due("5 target(0, MIN)", x.target(0, MIN), -2);
        check.due("5 target(0, MAX)", x.target(0, MAX), -2);
        check.due("5 -1 before -2", x.target(16, 4), -1);
        check.due("5 kept", x.target(15, 0), 2);
        check.due("5 kept", x.target(0, 0), 1);
        check.due("5 another", x.target(1, 0), 0);
    }

    private static void aim() {
        ShortestCode x = Bench.of(3, 1, 5);
        check.due("6 aim() at INPUT 0", x.aim(), 7);
        check.due("6 aim() again", x.aim(), 0);
        check.due("6 as told", x.differ(0, -2), -5);
        x.result(1);
        check.due("6 aim() at a CONSTANT", x.aim(), 7);
        for (int s = 0; s < 8; s++) {
            check.due("6 target(" + s + ")", x.target(s, 5), 5);
        }
        x.add(11, 0, 1);
        check.due("6 aim() at an INSTRUCTION", x.aim(), 8);
        check.due("6 as told", x.differ(2, -2), -5);
        check.due("6 RESULT stays", x.count(4), 2);
        x.target(3, 7);
        check.due("6 aim() for one", x.aim(), 1);
        check.due("6 target(3, 0)", x.target(3, 0), 1);
    }

    private static void add() {
        ShortestCode x = Bench.of(4, 2, 3);
        check.due("7 add(0, 3, 0)", x.add(0, 3, 0), -1);
        check.due("7 add(2, 0, 3)", x.add(2, 0, 3), -1);
        check.due("7 add(-1, 0, 0)", x.add(-1, 0, 0), -1);
        check.due("7 add(13, 0, 0)", x.add(13, 0, 0), -1);
        check.due("7 add(MIN, 0, 0)", x.add(MIN, 0, 0), -1);
        check.due("7 add(2, MIN, 0)", x.add(2, MIN, 0), -1);
        check.due("7 add(2, 0, MAX)", x.add(2, 0, MAX), -1);
        check.due("7 add(2, -1, 0)", x.add(2, -1, 0), -1);
        check.due("7 add(2, 0, -1)", x.add(2, 0, -1), -1);
        check.due("7 NOT with a b that is not there", x.add(0, 0, 3), -1);
        check.due("7 NEG with a b that is not there", x.add(1, 0, -1), -1);
        check.program("7 refused", x, 0);
        check.due("7 NOT with a b", x.add(0, 1, 2), 3);
        check.due("7 NEG with a b", x.add(1, 3, 3), 4);
        check.program("7 b is told as 0", x, 4, 0, 1, 0, 1, 3, 0);
        x.result(1);
        check.due("7 add(6, 4, 2)", x.add(6, 4, 2), 5);
        check.program("7 three", x, 5, 0, 1, 0, 1, 3, 0, 6, 4, 2);
        for (int i = 3; i < 12; i++) {
            check.due("7 add " + i, x.add(12, i, i + 2), 3 + i);
        }
        check.due("7 a 13th", x.add(2, 0, 0), -4);
        check.due("7 -1 before -4", x.add(2, 0, 15), -1);
        check.due("7 -1 before -4", x.add(13, 0, 0), -1);
        check.due("7 count(3)", x.count(3), 12);
        check.due("7 count(4)", x.count(4), 14);
        x.cost(5, 0);
        x.drop();
        check.due("7 BARRED", x.add(5, 0, 1), 14);
        check.due("7 BARRED runs", x.value(14, 0x97), 0);
        check.due("7 BARRED runs", x.value(14, 0x73), 10);
    }

    /** Each OPERATION on a few pairs of WORDS, told as a, b, and what is due. */
    private static void operations() {
        runs(4, 0, 5, 9, 10, 0, 3, 15, 15, 0, 0);
        runs(4, 1, 5, 9, 11, 0, 3, 0, 8, 0, 8, 15, 2, 1);
        runs(4, 2, 12, 10, 8, 15, 7, 7, 0, 15, 0);
        runs(4, 3, 12, 10, 14, 0, 0, 0, 8, 1, 9);
        runs(4, 4, 12, 10, 6, 15, 15, 0, 0, 9, 9);
        runs(4, 5, 12, 10, 6, 15, 1, 0, 7, 8, 15);
        runs(4, 6, 12, 10, 2, 10, 12, 14, 0, 1, 15, 5, 5, 0);
        runs(4, 7, 12, 10, 8, 15, 15, 1, 3, 5, 15, 4, 4, 0);
        runs(4, 8, 5, 0, 5, 5, 1, 10, 5, 6, 4, 15, 3, 8, 15, 4, 15, 3, 13, 6);
        runs(4, 9, 13, 0, 13, 13, 5, 6, 13, 2, 3, 8, 3, 1, 8, 12, 8, 15, 15, 1);
        runs(4, 10, 13, 0, 13, 13, 5, 14, 13, 2, 15, 8, 3, 15, 7, 1, 3, 7, 3, 0, 8, 4, 8, 10, 1, 13);
        runs(4, 11, 3, 9, 1, 9, 3, 0, 9, 9, 0, 7, 8, 1, 15, 0, 0, 0, 15, 1);
        runs(4, 12, 3, 9, 0, 9, 9, 1, 0, 0, 1, 15, 15, 1, 15, 7, 0);
    }

    private static void narrowWords() {
        runs(3, 0, 5, 0, 2);
        runs(3, 1, 5, 0, 3, 4, 0, 4);
        runs(3, 5, 5, 6, 3);
        runs(3, 6, 2, 7, 3);
        runs(3, 7, 5, 7, 3);
        runs(3, 8, 3, 5, 4, 3, 3, 3, 3, 7, 6, 7, 6, 7);
        runs(3, 9, 6, 5, 1, 6, 3, 6, 6, 4, 3);
        runs(3, 10, 6, 5, 7, 4, 1, 6, 3, 4, 1, 6, 6, 6);
        runs(2, 8, 1, 3, 2, 3, 1, 2, 3, 2, 3);
        runs(2, 9, 2, 1, 1, 2, 2, 2, 3, 3, 1);
        runs(2, 10, 2, 1, 3, 2, 2, 2, 1, 3, 0);
        runs(1, 0, 0, 0, 1, 1, 0, 0);
        runs(1, 1, 1, 0, 1, 0, 0, 0);
        runs(1, 5, 1, 1, 0);
        runs(1, 6, 0, 1, 1);
        runs(1, 8, 1, 1, 1, 0, 1, 0);
        runs(1, 9, 1, 1, 1, 1, 0, 1);
        runs(1, 10, 1, 1, 1, 0, 1, 0);
        runs(1, 11, 0, 1, 1, 1, 0, 0);
        runs(1, 12, 0, 1, 0, 0, 0, 1);
    }

    private static void runs(int w, int operation, int... cases) {
        ShortestCode x = Bench.of(w, 2);
        x.add(operation, 0, 1);
        for (int i = 0; i < cases.length; i += 3) {
            int s = cases[i] | cases[i + 1] << w;
            String call = "7 W " + w + ", operation " + operation + " of " + cases[i] + ", " + cases[i + 1];
            check.due(call, x.value(2, s), cases[i + 2]);
        }
        // The other way round, so that a and b are not mistaken for one another.
        x.drop();
        x.add(operation, 1, 0);
        for (int i = 0; i < cases.length && operation > 1; i += 3) {
            int s = cases[i + 1] | cases[i] << w;
            check.due("7 operation " + operation + " turned", x.value(2, s), cases[i + 2]);
        }
    }

    private static void drop() {
        ShortestCode x = Bench.of(2, 1, 1);
        check.due("8 drop() of none", x.drop(), -3);
        x.add(5, 0, 1);
        x.add(5, 2, 1);
        x.add(5, 3, 1);
        check.due("8 drop()", x.drop(), 2);
        check.program("8 RESULT was its VALUE", x, 0, 5, 0, 1, 5, 2, 1);
        x.result(2);
        check.due("8 drop()", x.drop(), 1);
        check.program("8 RESULT was another", x, 2, 5, 0, 1);
        check.due("8 its VALUE is gone", x.value(3, 0), -1);
        check.due("8 the other is there", x.value(2, 3), 0);
        x.result(1);
        check.due("8 drop()", x.drop(), 0);
        check.program("8 RESULT was a CONSTANT", x, 1);
        check.due("8 drop() of none", x.drop(), -3);
        check.due("8 refused", x.count(4), 1);
    }

    private static void result() {
        ShortestCode x = Bench.of(2, 2, 1);
        x.add(0, 0, 0);
        x.add(1, 1, 0);
        check.due("9 result(2)", x.result(2), 4);
        check.due("9 result(0)", x.result(0), 2);
        check.due("9 result(5)", x.result(5), -1);
        check.due("9 result(-1)", x.result(-1), -1);
        check.due("9 result(-2)", x.result(-2), -1);
        check.due("9 result(MIN)", x.result(MIN), -1);
        check.due("9 result(MAX)", x.result(MAX), -1);
        check.due("9 result(3)", x.result(3), 0);
        check.due("9 result(3) again", x.result(3), 3);
        check.program("9 the program stays", x, 3, 0, 0, 0, 1, 1, 0);
    }

    private static void instruction() {
        ShortestCode x = Bench.of(2, 2, 1);
        check.due("10 none", x.instruction(0, 0), -1);
        x.add(8, 2, 1);
        x.add(11, 3, 0);
        check.program("10 two", x, 4, 8, 2, 1, 11, 3, 0);
        check.due("10 k 2", x.instruction(2, 0), -1);
        check.due("10 k -1", x.instruction(-1, 0), -1);
        check.due("10 k MIN", x.instruction(MIN, 0), -1);
        check.due("10 k MAX", x.instruction(MAX, 0), -1);
        check.due("10 what 3", x.instruction(1, 3), -2);
        check.due("10 what -1", x.instruction(0, -1), -2);
        check.due("10 what MIN", x.instruction(0, MIN), -2);
        check.due("10 what MAX", x.instruction(0, MAX), -2);
        check.due("10 -1 before -2", x.instruction(2, 3), -1);
    }

    private static void count() {
        ShortestCode x = Bench.of(3, 2, 1, 2);
        x.cost(5, 9);
        x.cost(7, 0);
        x.cost(0, 3);
        x.add(5, 0, 1);
        x.add(7, 4, 4);
        x.add(0, 5, 0);
        x.add(5, 1, 1);
        x.result(6);
        int[] due = {3, 2, 2, 4, 6, 21};
        for (int what = 0; what < due.length; what++) {
            check.due("11 count(" + what + ")", x.count(what), due[what]);
        }
        x.cost(7, 2);
        check.due("11 COSTS as they are now", x.count(5), 23);
        x.drop();
        check.due("11 one less", x.count(5), 14);
        check.due("11 count(6)", x.count(6), -2);
        check.due("11 count(-1)", x.count(-1), -2);
        check.due("11 count(MIN)", x.count(MIN), -2);
        check.due("11 count(MAX)", x.count(MAX), -2);
    }

    private static void value() {
        ShortestCode x = Bench.of(2, 2, 2);
        x.add(5, 0, 1);
        x.add(7, 3, 2);
        check.due("12 INPUT 0", x.value(0, 14), 2);
        check.due("12 INPUT 1", x.value(1, 14), 3);
        check.due("12 CONSTANT", x.value(2, 14), 2);
        check.due("12 a + b", x.value(3, 14), 1);
        check.due("12 a * b", x.value(4, 14), 2);
        check.due("12 the last ASSIGNMENT", x.value(4, 15), 0);
        check.due("12 value(5, 0)", x.value(5, 0), -1);
        check.due("12 value(-1, 0)", x.value(-1, 0), -1);
        check.due("12 value(-2, 0)", x.value(-2, 0), -1);
        check.due("12 value(MIN, 0)", x.value(MIN, 0), -1);
        check.due("12 value(MAX, 0)", x.value(MAX, 0), -1);
        check.due("12 value(0, 16)", x.value(0, 16), -1);
        check.due("12 value(0, -1)", x.value(0, -1), -1);
        check.due("12 value(0, MIN)", x.value(0, MIN), -1);
        check.due("12 value(0, MAX)", x.value(0, MAX), -1);
        x.drop();
        x.add(6, 3, 1);
        check.due("12 another in its place", x.value(4, 14), 2);
        check.due("12 another in its place", x.value(4, 7), 3);
    }

    private static void differ() {
        ShortestCode x = Bench.of(2, 2, 3);
        x.add(5, 0, 1);
        x.add(6, 3, 1);
        x.add(2, 0, 2);
        check.due("13 alike", x.differ(0, 4), -5);
        check.due("13 alike", x.differ(5, 0), -5);
        check.due("13 itself", x.differ(3, 3), -5);
        check.due("13 INPUTS", x.differ(0, 1), 1);
        check.due("13 INPUT 0, the sum", x.differ(0, 3), 4);
        check.due("13 turned", x.differ(3, 0), 4);
        check.due("13 CONSTANT", x.differ(2, 0), 0);
        check.due("13 TARGET", x.differ(0, -2), 1);
        x.result(3);
        x.aim();
        check.due("13 TARGET alike", x.differ(3, -2), -5);
        x.target(15, 0);
        check.due("13 TARGET at the last", x.differ(3, -2), 15);
        check.due("13 TARGET as the first", x.differ(-2, 0), -1);
        check.due("13 TARGET twice", x.differ(-2, -2), -1);
        check.due("13 differ(6, 0)", x.differ(6, 0), -1);
        check.due("13 differ(0, 6)", x.differ(0, 6), -1);
        check.due("13 differ(-1, 0)", x.differ(-1, 0), -1);
        check.due("13 differ(0, -1)", x.differ(0, -1), -1);
        check.due("13 differ(0, -3)", x.differ(0, -3), -1);
        check.due("13 differ(6, -2)", x.differ(6, -2), -1);
        check.due("13 differ(MIN, 0)", x.differ(MIN, 0), -1);
        check.due("13 differ(0, MIN)", x.differ(0, MIN), -1);
        check.due("13 differ(MAX, 0)", x.differ(MAX, 0), -1);
        check.due("13 differ(0, MAX)", x.differ(0, MAX), -1);
    }
}

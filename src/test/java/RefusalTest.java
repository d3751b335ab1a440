import java.util.ArrayList;
import java.util.List;
import java.util.function.Supplier;
import java.util.function.ToIntFunction;

/**
 * Each refusal that the document tells has a test of its own: the last call that is taken, the first
 * that is refused, which refusal goes before another, and that nothing at all changes by it.
 */
public final class RefusalTest {
    private static final Check check = new Check("RefusalTest");
    private static final int MIN = Integer.MIN_VALUE;
    private static final int MAX = Integer.MAX_VALUE;

    public static void main(String[] args) {
        wordsTooNarrowOrTooWide();
        wordsWithTooFewOrTooManyInputs();
        constantThatIsNoWord();
        constantBehindInstructions();
        constantWithoutRoom();
        constantFirstThatFits();
        costOfNoOperation();
        costOutside();
        costFirstThatFits();
        targetOfNoAssignment();
        targetThatIsNoWord();
        targetFirstThatFits();
        addOfNoOperation();
        addOnNoValue();
        addOfOneOperandOnNoValue();
        addWithoutRoom();
        addFirstThatFits();
        dropOfNone();
        resultOfNoValue();
        instructionThatIsNone();
        instructionNoSuchWhat();
        instructionFirstThatFits();
        countNoSuchWhat();
        valueThatIsNone();
        valueOfNoAssignment();
        differOfNoValue();
        differNone();
        searchCostOutside();
        searchTriesOutside();
        searchAllOutside();
        searchNone();
        searchSpent();
        toldNoSuchWhat();
        takeNothing();
        check.end();
    }

    private static void wordsTooNarrowOrTooWide() {
        for (int w : new int[] {0, 5, -1, MIN, MAX}) {
            refused("2 words(" + w + ", 1)", RefusalTest::lived, x -> x.words(w, 1), -2);
            refused("2 words(" + w + ", 2)", RefusalTest::lived, x -> x.words(w, 2), -2);
        }
        taken("2 words(1, 1)", RefusalTest::lived, x -> x.words(1, 1), 2);
        taken("2 words(4, 1)", RefusalTest::lived, x -> x.words(4, 1), 16);
    }

    private static void wordsWithTooFewOrTooManyInputs() {
        for (int n : new int[] {0, 3, -1, MIN, MAX}) {
            refused("2 words(1, " + n + ")", RefusalTest::lived, x -> x.words(1, n), -2);
            refused("2 words(4, " + n + ")", RefusalTest::lived, x -> x.words(4, n), -2);
            refused("2 words(0, " + n + ")", RefusalTest::lived, x -> x.words(0, n), -2);
        }
        taken("2 words(1, 2)", RefusalTest::lived, x -> x.words(1, 2), 4);
        taken("2 words(4, 2)", RefusalTest::lived, x -> x.words(4, 2), 256);
    }

    private static void constantThatIsNoWord() {
        for (int w = 1; w <= 4; w++) {
            int bits = w;
            int end = 1 << w;
            taken("3 the least WORD, W " + w, () -> Bench.of(bits, 1), x -> x.constant(0), 1);
            taken("3 the greatest WORD, W " + w, () -> Bench.of(bits, 1), x -> x.constant(end - 1), 1);
            refused("3 one too large, W " + w, () -> Bench.of(bits, 1), x -> x.constant(end), -2);
            refused("3 one too small, W " + w, () -> Bench.of(bits, 1), x -> x.constant(-1), -2);
        }
        refused("3 constant(MIN)", RefusalTest::threeConstants, x -> x.constant(MIN), -2);
        refused("3 constant(MAX)", RefusalTest::threeConstants, x -> x.constant(MAX), -2);
    }

    private static void constantBehindInstructions() {
        refused("3 with four INSTRUCTIONS", RefusalTest::lived, x -> x.constant(0), -3);
        refused("3 with one INSTRUCTION", RefusalTest::oneInstruction, x -> x.constant(0), -3);
        taken("3 with none any more", () -> then(oneInstruction(), x -> x.drop()), x -> x.constant(0), 2);
    }

    private static void constantWithoutRoom() {
        taken("3 the fourth", RefusalTest::threeConstants, x -> x.constant(2), 5);
        refused("3 a fifth", RefusalTest::fourConstants, x -> x.constant(2), -4);
        refused("3 a fifth behind one INPUT", () -> Bench.of(2, 1, 0, 0, 0, 0), x -> x.constant(0), -4);
    }

    private static void constantFirstThatFits() {
        refused("3 -2 before -3", RefusalTest::lived, x -> x.constant(4), -2);
        refused("3 -2 before -4", RefusalTest::fourConstants, x -> x.constant(4), -2);
        refused("3 -3 before -4", RefusalTest::full, x -> x.constant(0), -3);
        refused("3 -2 before all", RefusalTest::full, x -> x.constant(-1), -2);
    }

    private static void costOfNoOperation() {
        for (int operation : new int[] {-1, 13, MIN, MAX}) {
            refused("4 cost(" + operation + ", 1)", RefusalTest::lived, x -> x.cost(operation, 1), -1);
        }
        taken("4 the first OPERATION", RefusalTest::lived, x -> x.cost(0, 1), 2);
        taken("4 the last OPERATION", RefusalTest::lived, x -> x.cost(12, 1), 9);
    }

    private static void costOutside() {
        for (int c : new int[] {-1, 10, MIN, MAX}) {
            refused("4 cost(5, " + c + ")", RefusalTest::lived, x -> x.cost(5, c), -2);
        }
        taken("4 the least", RefusalTest::lived, x -> x.cost(5, 0), 3);
        taken("4 the most", RefusalTest::lived, x -> x.cost(5, 9), 3);
    }

    private static void costFirstThatFits() {
        refused("4 -1 before -2", RefusalTest::lived, x -> x.cost(13, 10), -1);
        refused("4 -1 before -2", RefusalTest::lived, x -> x.cost(-1, -1), -1);
    }

    private static void targetOfNoAssignment() {
        int[][] ends = {{1, 1, 2}, {2, 1, 4}, {3, 1, 8}, {4, 1, 16}, {1, 2, 4}, {2, 2, 16}, {3, 2, 64}};
        for (int[] e : ends) {
            String with = "5 W " + e[0] + ", n " + e[1] + ": ";
            taken(with + "the first", () -> Bench.of(e[0], e[1]), x -> x.target(0, 1), 0);
            taken(with + "the last", () -> Bench.of(e[0], e[1]), x -> x.target(e[2] - 1, 1), 0);
            refused(with + "one behind", () -> Bench.of(e[0], e[1]), x -> x.target(e[2], 1), -1);
            refused(with + "one before", () -> Bench.of(e[0], e[1]), x -> x.target(-1, 1), -1);
        }
        taken("5 the last of all", () -> Bench.of(4, 2), x -> x.target(255, 1), 0);
        check.due("5 one behind all", Bench.of(4, 2).target(256, 1), -1);
        refused("5 target(MIN, 1)", RefusalTest::lived, x -> x.target(MIN, 1), -1);
        refused("5 target(MAX, 1)", RefusalTest::lived, x -> x.target(MAX, 1), -1);
    }

    private static void targetThatIsNoWord() {
        for (int w = 1; w <= 4; w++) {
            int bits = w;
            int end = 1 << w;
            taken("5 the greatest WORD, W " + w, () -> Bench.of(bits, 1), x -> x.target(1, end - 1), 0);
            refused("5 one too large, W " + w, () -> Bench.of(bits, 1), x -> x.target(1, end), -2);
            refused("5 one too small, W " + w, () -> Bench.of(bits, 1), x -> x.target(1, -1), -2);
        }
        refused("5 target(3, MIN)", RefusalTest::lived, x -> x.target(3, MIN), -2);
        refused("5 target(3, MAX)", RefusalTest::lived, x -> x.target(3, MAX), -2);
    }

    private static void targetFirstThatFits() {
        refused("5 -1 before -2", RefusalTest::lived, x -> x.target(16, 4), -1);
        refused("5 -1 before -2", RefusalTest::lived, x -> x.target(-1, -1), -1);
    }

    private static void addOfNoOperation() {
        for (int operation : new int[] {-1, 13, MIN, MAX}) {
            refused("7 add(" + operation + ", 0, 0)", RefusalTest::lived, x -> x.add(operation, 0, 0), -1);
        }
        taken("7 the first OPERATION", RefusalTest::lived, x -> x.add(0, 0, 0), 8);
        taken("7 the last OPERATION", RefusalTest::lived, x -> x.add(12, 0, 0), 8);
    }

    /** In lived() the VALUES are 0 .. 7. */
    private static void addOnNoValue() {
        for (int v : new int[] {-1, -2, 8, 9, MIN, MAX}) {
            refused("7 a " + v, RefusalTest::lived, x -> x.add(5, v, 0), -1);
            refused("7 b " + v, RefusalTest::lived, x -> x.add(5, 0, v), -1);
        }
        taken("7 the last VALUE twice", RefusalTest::lived, x -> x.add(5, 7, 7), 8);
        refused("7 a is none with an INPUT alone", () -> Bench.of(2, 1), x -> x.add(5, 1, 0), -1);
        refused("7 b is none with an INPUT alone", () -> Bench.of(2, 1), x -> x.add(5, 0, 1), -1);
        refused("7 one that was dropped", () -> then(lived(), x -> x.drop()), x -> x.add(5, 7, 0), -1);
    }

    private static void addOfOneOperandOnNoValue() {
        for (int operation = 0; operation <= 1; operation++) {
            int one = operation;
            for (int v : new int[] {-1, 8, MIN, MAX}) {
                refused("7 b " + v + " of " + one, RefusalTest::lived, x -> x.add(one, 0, v), -1);
                refused("7 a " + v + " of " + one, RefusalTest::lived, x -> x.add(one, v, 0), -1);
            }
            taken("7 the last as b of " + one, RefusalTest::lived, x -> x.add(one, 0, 7), 8);
        }
    }

    private static void addWithoutRoom() {
        taken("7 the 12th", () -> then(full(), x -> x.drop()), x -> x.add(5, 16, 0), 17);
        refused("7 a 13th", RefusalTest::full, x -> x.add(5, 0, 0), -4);
        refused("7 a 13th of NOT", RefusalTest::full, x -> x.add(0, 17, 17), -4);
    }

    private static void addFirstThatFits() {
        refused("7 -1 before -4: OPERATION", RefusalTest::full, x -> x.add(13, 0, 0), -1);
        refused("7 -1 before -4: a", RefusalTest::full, x -> x.add(5, 18, 0), -1);
        refused("7 -1 before -4: b", RefusalTest::full, x -> x.add(5, 0, 18), -1);
        refused("7 -1 before -4: b of NOT", RefusalTest::full, x -> x.add(0, 0, -1), -1);
    }

    private static void dropOfNone() {
        refused("8 there is none", RefusalTest::fourConstants, x -> x.drop(), -3);
        refused("8 of a new one", ShortestCode::new, x -> x.drop(), -3);
        refused("8 there is none any more", () -> then(oneInstruction(), x -> x.drop()), x -> x.drop(), -3);
        taken("8 there is one", RefusalTest::oneInstruction, x -> x.drop(), 0);
    }

    private static void resultOfNoValue() {
        for (int v : new int[] {-1, -2, 8, MIN, MAX}) {
            refused("9 result(" + v + ")", RefusalTest::lived, x -> x.result(v), -1);
        }
        taken("9 the first VALUE", RefusalTest::lived, x -> x.result(0), 6);
        taken("9 the last VALUE", RefusalTest::lived, x -> x.result(7), 6);
        refused("9 with an INPUT alone", ShortestCode::new, x -> x.result(1), -1);
        refused("9 the one behind all", RefusalTest::full, x -> x.result(18), -1);
        taken("9 the last of all", RefusalTest::full, x -> x.result(17), 9);
    }

    private static void instructionThatIsNone() {
        for (int k : new int[] {-1, 4, MIN, MAX}) {
            refused("10 instruction(" + k + ", 0)", RefusalTest::lived, x -> x.instruction(k, 0), -1);
        }
        refused("10 of none", RefusalTest::fourConstants, x -> x.instruction(0, 0), -1);
        refused("10 the 13th", RefusalTest::full, x -> x.instruction(12, 2), -1);
        taken("10 the 12th", RefusalTest::full, x -> x.instruction(11, 1), 16);
    }

    private static void instructionNoSuchWhat() {
        for (int what : new int[] {-1, 3, MIN, MAX}) {
            refused("10 instruction(0, " + what + ")", RefusalTest::lived, x -> x.instruction(0, what), -2);
        }
        taken("10 the last what", RefusalTest::lived, x -> x.instruction(0, 2), 1);
    }

    private static void instructionFirstThatFits() {
        refused("10 -1 before -2", RefusalTest::lived, x -> x.instruction(4, 3), -1);
        refused("10 -1 before -2", RefusalTest::lived, x -> x.instruction(-1, -1), -1);
    }

    private static void countNoSuchWhat() {
        for (int what : new int[] {-1, 6, MIN, MAX}) {
            refused("11 count(" + what + ")", RefusalTest::lived, x -> x.count(what), -2);
        }
        taken("11 the first what", RefusalTest::lived, x -> x.count(0), 2);
        taken("11 the last what", RefusalTest::lived, x -> x.count(5), 8);
    }

    private static void valueThatIsNone() {
        for (int v : new int[] {-1, -2, 8, MIN, MAX}) {
            refused("12 value(" + v + ", 0)", RefusalTest::lived, x -> x.value(v, 0), -1);
        }
        refused("12 with an INPUT alone", ShortestCode::new, x -> x.value(1, 0), -1);
        refused("12 the one behind all", RefusalTest::full, x -> x.value(18, 0), -1);
        refused("12 one that was dropped", () -> then(lived(), x -> x.drop()), x -> x.value(7, 0), -1);
    }

    private static void valueOfNoAssignment() {
        for (int s : new int[] {-1, 16, MIN, MAX}) {
            refused("12 value(0, " + s + ")", RefusalTest::lived, x -> x.value(0, s), -1);
        }
        taken("12 the last ASSIGNMENT", RefusalTest::lived, x -> x.value(0, 15), 3);
        refused("12 of a new one", ShortestCode::new, x -> x.value(0, 16), -1);
        taken("12 the last of a new one", ShortestCode::new, x -> x.value(0, 15), 15);
        check.due("12 one behind all", Bench.of(4, 2).value(1, 256), -1);
    }

    private static void differOfNoValue() {
        for (int v : new int[] {-1, -2, -3, 8, MIN, MAX}) {
            refused("13 differ(" + v + ", 0)", RefusalTest::lived, x -> x.differ(v, 0), -1);
            refused("13 differ(" + v + ", -2)", RefusalTest::lived, x -> x.differ(v, -2), -1);
        }
        for (int v : new int[] {-1, -3, 8, MIN, MAX}) {
            refused("13 differ(0, " + v + ")", RefusalTest::lived, x -> x.differ(0, v), -1);
            refused("13 differ(" + v + ", " + v + ")", RefusalTest::lived, x -> x.differ(v, v), -1);
        }
    }

    private static void differNone() {
        refused("13 a VALUE and itself", RefusalTest::lived, x -> x.differ(7, 7), -5);
        refused("13 alike everywhere", RefusalTest::lived, x -> x.differ(0, 7), -5);
        refused("13 as TARGET is", () -> then(lived(), x -> x.aim()), x -> x.differ(6, -2), -5);
    }

    private static void searchCostOutside() {
        for (int cost : new int[] {-1, 31, MIN, MAX}) {
            refused("15 cost " + cost, RefusalTest::lived, x -> x.search(cost, 10, 0), -2);
        }
        taken("15 the least", RefusalTest::lived, x -> x.search(0, 10, 0), -5);
        taken("15 the most", RefusalTest::lived, x -> x.search(30, 10, 0), -6);
    }

    private static void searchTriesOutside() {
        for (int tries : new int[] {-1, 30001, MIN, MAX}) {
            refused("15 tries " + tries, RefusalTest::lived, x -> x.search(1, tries, 0), -2);
        }
        taken("15 the least", RefusalTest::lived, x -> x.search(2, 0, 0), -6);
        taken("15 the most", RefusalTest::lived, x -> x.search(2, 30000, 0), -5);
    }

    private static void searchAllOutside() {
        for (int all : new int[] {-1, 2, MIN, MAX}) {
            refused("15 all " + all, RefusalTest::lived, x -> x.search(1, 10, all), -2);
        }
        refused("15 nothing is right", RefusalTest::lived, x -> x.search(31, -1, 2), -2);
        // What cost 0 would find is not looked at either.
        refused("15 before COST 0", () -> then(threeConstants(), x -> x.aim()), x -> x.search(0, -1, 0), -2);
    }

    /** told() alone speaks of it. */
    private static void searchNone() {
        changesToldAlone("15 there is none", RefusalTest::lived, x -> x.search(2, 30000, 0), -5);
        changesToldAlone("15 none of ALL", RefusalTest::full, x -> x.search(0, 0, 1), -5);
    }

    private static void searchSpent() {
        changesToldAlone("15 SPENT", RefusalTest::lived, x -> x.search(30, 20, 0), -6);
        changesToldAlone("15 SPENT at once", RefusalTest::full, x -> x.search(1, 0, 1), -6);
        // It is FOUND with the first TRY, and SPENT by the next.
        Supplier<ShortestCode> aimed = () -> then(then(lived(), x -> x.result(x.add(0, 0, 0))), x -> x.aim());
        taken("15 one TRY, the first alone", aimed, x -> x.search(2, 1, 0), 2);
        changesToldAlone("15 one TRY, ALL", aimed, x -> x.search(2, 1, 1), -6);
    }

    private static void toldNoSuchWhat() {
        for (int what : new int[] {-1, 4, MIN, MAX}) {
            refused("16 told(" + what + ")", RefusalTest::lived, x -> x.told(what), -2);
            refused("16 told(" + what + ") before any", ShortestCode::new, x -> x.told(what), -2);
        }
        taken("16 the last what", RefusalTest::lived, x -> x.told(3), 3);
        refused("16 before any", ShortestCode::new, x -> x.told(3), -3);
    }

    private static void takeNothing() {
        refused("17 of a new one", ShortestCode::new, x -> x.take(), -3);
        refused("17 with INSTRUCTIONS", RefusalTest::oneInstruction, x -> x.take(), -3);
        refused("17 since words()", () -> then(lived(), x -> x.words(2, 2)), x -> x.take(), -3);
        refused("17 since constant()", () -> then(threeConstants(), x -> x.constant(1)), x -> x.take(), -3);
        refused("17 with a search for nothing", () -> then(oneInstruction(), x -> x.search(0, 0, 0)), x -> x.take(), -3);
        taken("17 something", RefusalTest::lived, x -> x.take(), 1);
    }

    /** W 2, INPUTS 0, 1, CONSTANTS 2, 3, INSTRUCTIONS 4 .. 7; 7 is as 0 is; RESULT 6; something was FOUND. */
    private static ShortestCode lived() {
        ShortestCode x = Bench.of(2, 2, 3, 1);
        for (int operation = 0; operation < 13; operation++) {
            x.cost(operation, 0);
        }
        x.cost(0, 2);
        x.cost(5, 3);
        x.cost(12, 9);
        x.add(5, 0, 1);
        x.aim();
        x.search(4, 1000, 1);
        x.add(7, 4, 3);
        x.add(5, 4, 0);
        x.add(6, 4, 1);
        x.cost(7, 2);
        x.result(6);
        x.target(0, 1);
        x.target(9, 3);
        return x;
    }

    private static ShortestCode oneInstruction() {
        ShortestCode x = Bench.of(2, 2);
        x.add(6, 1, 0);
        x.target(7, 2);
        return x;
    }

    /** No INSTRUCTIONS; a CONSTANT was FOUND. */
    private static ShortestCode threeConstants() {
        ShortestCode x = Bench.of(2, 2, 3, 1, 1);
        x.result(3);
        x.aim();
        x.search(0, 0, 0);
        x.target(15, 0);
        return x;
    }

    private static ShortestCode fourConstants() {
        ShortestCode x = Bench.of(2, 2, 3, 1, 1, 0);
        x.result(4);
        x.aim();
        x.search(3, 50, 1);
        x.target(2, 2);
        return x;
    }

    /** 4 CONSTANTS and 12 INSTRUCTIONS: VALUES 0 .. 17, RESULT 9. */
    private static ShortestCode full() {
        ShortestCode x = fourConstants();
        for (int i = 0; i < 12; i++) {
            x.add(i % 2 == 0 ? 5 : 7, 5 + i, i % 6);
        }
        x.result(9);
        return x;
    }

    private static ShortestCode then(ShortestCode x, ToIntFunction<ShortestCode> call) {
        call.applyAsInt(x);
        return x;
    }

    private static void taken(String what, Supplier<ShortestCode> made, ToIntFunction<ShortestCode> call, int due) {
        check.due(what, call.applyAsInt(made.get()), due);
    }

    /** Two objects come about alike, and one of them has one call more, which is refused. */
    private static void refused(String what, Supplier<ShortestCode> made, ToIntFunction<ShortestCode> call, int due) {
        taken(what, made, call, due);
        List<String> with = all(then(made.get(), call));
        List<String> without = all(made.get());
        compare(what, with, without);
    }

    private static void changesToldAlone(String what, Supplier<ShortestCode> made, ToIntFunction<ShortestCode> call, int due) {
        taken(what, made, call, due);
        compare(what, allButTold(then(made.get(), call)), allButTold(made.get()));
        check.due(what + ": told(3)", then(made.get(), call).told(3), due);
    }

    private static void compare(String what, List<String> with, List<String> without) {
        check.due(what + ": answers", with.size(), without.size());
        for (int i = 0; i < with.size() && i < without.size(); i++) {
            check.holds(what + " changes nothing: " + with.get(i) + " was " + without.get(i),
                with.get(i).equals(without.get(i)));
        }
    }

    private static List<String> all(ShortestCode x) {
        List<String> told = new ArrayList<>();
        for (int what = 0; what < 4; what++) {
            told.add("told " + x.told(what));
        }
        told.addAll(allButTold(x));
        return told;
    }

    /** All that can be asked; what changes the object in the asking comes last. */
    private static List<String> allButTold(ShortestCode x) {
        List<String> told = new ArrayList<>(program(x));
        int values = x.count(1) + x.count(2) + x.count(3);
        int assignments = 1 << (x.count(0) * x.count(1));
        for (int v = 0; v < values; v++) {
            // An object is asked no more than 512 times.
            for (int s = 0; s < assignments && s < 16; s++) {
                told.add("value " + v + ", " + s + " " + x.value(v, s));
            }
        }
        for (int s = 0; s < assignments; s++) {
            told.add("target " + s + " " + x.target(s, 0));
        }
        for (int operation = 0; operation < 13; operation++) {
            told.add("cost " + operation + " " + x.cost(operation, 1));
        }
        told.add("take " + x.take());
        told.addAll(program(x));
        return told;
    }

    private static List<String> program(ShortestCode x) {
        List<String> told = new ArrayList<>();
        for (int what = 0; what < 6; what++) {
            told.add("count " + what + " " + x.count(what));
        }
        for (int k = 0; k < x.count(3); k++) {
            for (int what = 0; what < 3; what++) {
                told.add("instruction " + k + ", " + what + " " + x.instruction(k, what));
            }
        }
        return told;
    }
}

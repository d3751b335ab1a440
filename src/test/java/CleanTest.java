/** Promise 14: CLEANING THE PROGRAM. */
public final class CleanTest {
    private static final Check check = new Check("CleanTest");

    public static void main(String[] args) {
        nothingToDo();
        repeatedGoes();
        leastSuchValue();
        repeatedInput();
        resultIsReplaced();
        needlessGoes();
        needlessChain();
        resultIsGiven();
        needlessFromTheLast();
        neededAsB();
        repeatedBeforeNeedless();
        hangingIsByOperands();
        twelve();
        leavesTheRest();
        check.end();
    }

    private static void nothingToDo() {
        ShortestCode x = Bench.of(3, 2);
        check.due("14 no INSTRUCTIONS", x.clean(), 0);
        x.add(5, 0, 1);
        x.add(0, 2, 0);
        check.due("14 all needed", x.clean(), 0);
        check.program("14 as it was", x, 3, 5, 0, 1, 0, 2, 0);
    }

    private static void repeatedGoes() {
        ShortestCode x = Bench.of(3, 2);
        x.add(5, 0, 1); // 2
        x.add(5, 1, 0); // 3 is 2
        x.add(7, 3, 2); // 4
        x.add(6, 4, 3); // 5
        check.due("14 one goes", x.clean(), 1);
        check.program("14 OPERANDS have the other", x, 4, 5, 0, 1, 7, 2, 2, 6, 3, 2);
        check.due("14 its VALUES are right", x.value(4, 10), 6);
        check.due("14 no VALUE more", x.value(5, 0), -1);
        check.due("14 again", x.clean(), 0);
    }

    private static void leastSuchValue() {
        ShortestCode x = Bench.of(2, 1, 3, 3);
        x.add(2, 0, 2); // 3 is 0
        x.add(3, 1, 2); // 4 is 1 and 2: 1 is the least
        x.add(4, 4, 0); // 5
        check.due("14 two go", x.clean(), 2);
        check.program("14 the least such VALUE", x, 3, 4, 1, 0);
        check.due("14 CONSTANTS stay", x.count(2), 2);
    }

    private static void repeatedInput() {
        ShortestCode x = Bench.of(1, 2);
        x.add(8, 1, 0); // 2: moved by 0 bits, is INPUT 1
        x.add(4, 0, 2); // 3
        check.due("14 one goes", x.clean(), 1);
        check.program("14 INPUT 1 instead", x, 2, 4, 0, 1);
    }

    private static void resultIsReplaced() {
        ShortestCode x = Bench.of(4, 1);
        x.add(0, 0, 0); // 1
        x.add(0, 1, 0); // 2 is 0
        check.due("14 RESULT is INPUT 0: all go", x.clean(), 2);
        check.program("14 RESULT", x, 0);
        x.add(1, 0, 0); // 1
        x.add(0, 0, 0); // 2
        x.add(1, 0, 0); // 3 is 1
        check.due("14 RESULT is 1", x.clean(), 2);
        check.program("14 RESULT", x, 1, 1, 0, 0);
    }

    private static void needlessGoes() {
        ShortestCode x = Bench.of(3, 2);
        x.add(5, 0, 1); // 2
        x.add(7, 0, 1); // 3: nobody's
        x.add(6, 2, 1); // 4 is 0
        x.add(4, 2, 0); // 5
        x.add(2, 0, 1); // 6: nobody's
        x.result(5);
        check.due("14 three go", x.clean(), 3);
        check.program("14 numbers are less", x, 3, 5, 0, 1, 4, 2, 0);
        check.due("14 its VALUES are right", x.value(3, 9), 3);
    }

    private static void needlessChain() {
        ShortestCode x = Bench.of(4, 2);
        x.add(5, 0, 1); // 2
        x.add(7, 2, 2); // 3
        x.add(0, 3, 0); // 4
        x.add(4, 3, 4); // 5
        x.result(2);
        check.due("14 a chain goes", x.clean(), 3);
        check.program("14 RESULT's alone", x, 2, 5, 0, 1);
    }

    /** If the first went before the second, NOT would make RESULT's VALUE, and RESULT be NOT. */
    private static void needlessFromTheLast() {
        ShortestCode x = Bench.of(4, 2, 15);
        x.add(5, 0, 1); // 3
        x.add(0, 3, 0); // 4
        x.add(4, 0, 2); // 5
        check.due("14 two go", x.clean(), 2);
        check.program("14 RESULT's alone", x, 3, 4, 0, 2);
    }

    private static void neededAsB() {
        ShortestCode x = Bench.of(4, 2);
        x.add(7, 0, 1); // 2
        x.add(3, 0, 1); // 3: nobody's
        x.add(6, 0, 2); // 4
        check.due("14 one goes", x.clean(), 1);
        check.program("14 b is needed", x, 3, 7, 0, 1, 6, 0, 2);
    }

    private static void resultIsGiven() {
        ShortestCode x = Bench.of(4, 2, 9);
        x.add(5, 0, 1);
        x.add(6, 3, 2);
        x.result(2);
        check.due("14 RESULT is a CONSTANT", x.clean(), 2);
        check.program("14 no INSTRUCTIONS", x, 2);
        x.add(5, 0, 1);
        x.result(1);
        check.due("14 RESULT is an INPUT", x.clean(), 1);
        check.program("14 no INSTRUCTIONS", x, 1);
    }

    /** A VALUE that nobody needed may still be the least for one that is needed. */
    private static void repeatedBeforeNeedless() {
        ShortestCode x = Bench.of(4, 2);
        x.add(5, 0, 1); // 2: needed only instead of 4
        x.add(1, 1, 0); // 3
        x.add(6, 0, 3); // 4 is 2
        x.add(0, 4, 0); // 5
        check.due("14 two go", x.clean(), 2);
        check.program("14 the earlier one stays", x, 3, 5, 0, 1, 0, 2, 0);
    }

    private static void hangingIsByOperands() {
        ShortestCode x = Bench.of(4, 2);
        x.add(5, 0, 1); // 2: counts for nothing in 3, and yet RESULT hangs on it
        x.add(4, 2, 2); // 3 is 0 everywhere, but no VALUE before it is
        check.due("14 both stay", x.clean(), 0);
        check.program("14 both stay", x, 3, 5, 0, 1, 4, 2, 2);
        x.words(4, 2);
        x.add(2, 0, 1); // 2
        x.add(0, 1, 2); // 3: b of NOT counts for nothing
        check.due("14 b of NOT", x.clean(), 1);
        check.program("14 b of NOT", x, 2, 0, 1, 0);
    }

    private static void twelve() {
        ShortestCode x = Bench.of(4, 2, 1, 2, 4, 8);
        for (int i = 0; i < 12; i++) {
            x.add(3, i == 0 ? 0 : 5 + i, i == 0 ? 0 : 5 + i);
        }
        check.due("14 twelve go", x.clean(), 12);
        check.program("14 INPUT 0 is left", x, 0);
        for (int i = 0; i < 12; i++) {
            x.add(5, i == 0 ? 0 : 5 + i, 2);
        }
        check.due("14 twelve sums", x.clean(), 0);
        check.due("14 all are there", x.count(3), 12);
        check.due("14 RESULT", x.count(4), 17);
        x.result(6);
        check.due("14 eleven go", x.clean(), 11);
        check.program("14 the first is left", x, 6, 5, 0, 2);
    }

    private static void leavesTheRest() {
        ShortestCode x = Bench.of(2, 1, 1);
        x.add(5, 0, 1);
        x.aim();
        check.due("14 search", x.search(1, 100, 0), 1);
        x.cost(0, 0);
        x.add(0, 2, 0);
        x.result(0);
        check.due("14 two go", x.clean(), 2);
        check.due("14 TARGET stays", x.target(3, 0), 0);
        check.due("14 TARGET stays", x.target(1, 2), 2);
        check.due("14 COSTS stay", x.cost(0, 1), 0);
        check.due("14 FOUND stays", x.take(), 1);
        check.program("14 FOUND stays", x, 2, 5, 0, 1);
    }
}

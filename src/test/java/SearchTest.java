/** Promises 15 to 17: THE SEARCH, what is told of it, and take(). */
public final class SearchTest {
    private static final Check check = new Check("SearchTest");
    private static final int MIN = Integer.MIN_VALUE;
    private static final int MAX = Integer.MAX_VALUE;

    public static void main(String[] args) {
        costZero();
        orderOfInstructions();
        whatIsNotLookedAt();
        totals();
        noValueTwice();
        afterOtherWords();
        programIsNotLookedAt();
        first();
        all();
        spent();
        spentAfterFound();
        longRows();
        allBarred();
        outside();
        told();
        take();
        check.end();
    }

    private static void costZero() {
        ShortestCode x = Bench.of(3, 2, 6, 0, 0);
        check.due("15 CONSTANT 0", x.search(0, 0, 0), 0);
        check.told("15 CONSTANT 0", x, 0, 0, 1, 0);
        check.due("15 take()", x.take(), 0);
        check.program("15 the least such VALUE", x, 3);
        check.due("15 ALL: it is one", x.search(30, 30000, 1), 0);
        check.told("15 ALL: it is one", x, 0, 0, 1, 0);
        x.result(1);
        x.aim();
        check.due("15 INPUT 1", x.search(9, 0, 0), 0);
        x.take();
        check.program("15 INPUT 1", x, 1);
        x.add(0, 0, 0);
        x.aim();
        check.due("15 an INSTRUCTION's VALUE is none", x.search(0, 30000, 0), -5);
        check.told("15 nothing with COST 0", x, 0, 0, 0, -5);
        x.words(4, 2);
        x.result(1);
        x.aim();
        x.target(255, 0);
        check.due("15 all ASSIGNMENTS but one", x.search(0, 0, 0), -5);
    }

    /** With one INPUT, the TRIES of round 1 stand in the ORDER of OPERATIONS. */
    private static void orderOfInstructions() {
        int[] single = {0, 1, 4, 5, 7, 8, 9, 10, 12};
        int[] tries = {1, 2, 5, 6, 8, 9, 10, 11, 13};
        for (int i = 0; i < single.length; i++) {
            ShortestCode x = Bench.of(4, 1);
            Bench.aimAt(x, single[i], 0, 0);
            check.due("15 operation " + single[i], x.search(1, 30000, 0), 1);
            check.told("15 operation " + single[i], x, tries[i], 1, 1, 1);
            check.due("15 take()", x.take(), 1);
            check.program("15 operation " + single[i], x, 1, single[i], 0, 0);
        }
        ShortestCode x = Bench.of(4, 2, 5);
        Bench.only(x, 6, 1);
        for (int a = 0; a < 3; a++) {
            for (int b = 0; b < 3; b++) {
                if (a != b) {
                    Bench.aimAt(x, 6, a, b);
                    check.due("15 by a, then b", x.search(1, 30000, 0), 1);
                    check.due("15 by a, then b", x.told(0), 3 * a + b + 1);
                    x.take();
                    check.program("15 by a, then b", x, 3, 6, a, b);
                    x.drop();
                }
            }
        }
    }

    /** How many TRIES round 1 has for each OPERATION alone, with four VALUES. */
    private static void whatIsNotLookedAt() {
        int[] due = {4, 4, 10, 10, 10, 10, 16, 10, 16, 16, 16, 16, 10};
        for (int operation = 0; operation < 13; operation++) {
            ShortestCode x = Bench.of(4, 2, 5, 6);
            x.target(0, 3);
            x.target(200, 11);
            Bench.only(x, operation, 1);
            check.due("15 operation " + operation, x.search(1, 30000, 1), -5);
            check.told("15 operation " + operation, x, due[operation], 1, 0, -5);
            Bench.only(x, operation, 2);
            check.due("15 dearer than the total", x.search(1, 30000, 1), -5);
            check.told("15 dearer than the total", x, 0, 1, 0, -5);
        }
    }

    private static void totals() {
        ShortestCode x = Bench.of(4, 1);
        Bench.only(x, 0, 2, 1, 3);
        // -(~a) is a + 1; NOT costs 2, NEG 3, so it costs 5.
        x.add(0, 0, 0);
        x.add(1, 1, 0);
        x.aim();
        check.due("15 nothing for 4", x.search(4, 1000, 0), -5);
        // Rounds: 1 none; 2 NOT 0; 3 NOT 0, NEG 0; 4 NOT 0 with NOT 0, NOT 1 behind it, NEG 0.
        check.told("15 nothing for 4", x, 7, 4, 0, -5);
        check.due("15 COST 5", x.search(30, 1000, 0), 5);
        // Round 5: NOT 0 with NOT 0, NOT 1, NEG 0, NEG 1 behind it.
        check.told("15 COST 5", x, 12, 5, 1, 5);
        check.due("15 two INSTRUCTIONS", x.take(), 2);
        check.program("15 two INSTRUCTIONS", x, 2, 0, 0, 0, 1, 1, 0);
        check.due("15 its COST", x.count(5), 5);
        Bench.only(x, 5, 9);
        x.words(4, 1);
        x.add(5, 0, 0);
        x.add(5, 1, 1);
        x.add(5, 2, 0);
        x.aim();
        check.due("15 COST 27", x.search(27, 30000, 0), 27);
        check.due("15 rounds", x.told(1), 27);
        check.due("15 COST 26", x.search(26, 30000, 0), -5);
        check.due("15 rounds", x.told(1), 26);
    }

    /** NOT alone: the second NOT makes INPUT 0 again, and nothing stands behind it. */
    private static void noValueTwice() {
        ShortestCode x = Bench.of(4, 1);
        Bench.only(x, 0, 1);
        Bench.aimNowhere(x);
        check.due("15 NOT alone", x.search(5, 30000, 0), -5);
        // Round 1: 1; round 2: NOT 0, then NOT 0, NOT 1: 3; each round later: the same 3.
        check.told("15 NOT alone", x, 13, 5, 0, -5);
        // A CONSTANT that NOT makes of another is a VALUE before it, too.
        x = Bench.of(1, 1, 0, 1);
        x.target(0, 0);
        x.target(1, 0);
        Bench.only(x, 0, 1);
        check.due("15 COST 0", x.search(2, 100, 0), 0);
        x = Bench.of(2, 1, 0, 3);
        x.target(0, 2);
        Bench.only(x, 0, 1);
        check.due("15 CONSTANTS", x.search(2, 100, 0), -5);
        // Round 1: 3; round 2: NOT 0 (4 behind it), NOT 1 and NOT 2 make CONSTANTS: 7.
        check.told("15 CONSTANTS", x, 10, 2, 0, -5);
    }

    private static void afterOtherWords() {
        ShortestCode x = Bench.of(4, 1);
        Bench.aimAt(x, 0, 0, 0);
        check.due("15 one INPUT", x.search(1, 100, 0), 1);
        x.words(2, 2);
        Bench.aimAt(x, 6, 1, 0);
        check.due("15 two INPUTS", x.search(1, 100, 0), 1);
        // 2 NOT and NEG each, 3 AND, OR, XOR and + each, then - of 0, 0; 0, 1; 1, 0.
        check.told("15 two INPUTS", x, 19, 1, 1, 1);
        x.constant(3);
        Bench.aimAt(x, 6, 2, 0);
        check.due("15 a CONSTANT more: it is NOT 0", x.search(1, 100, 0), 1);
        check.told("15 a CONSTANT more: it is NOT 0", x, 1, 1, 1, 1);
        Bench.only(x, 6, 1);
        check.due("15 NOT is BARRED", x.search(1, 100, 0), 1);
        check.told("15 NOT is BARRED", x, 7, 1, 1, 1);
        x.take();
        check.program("15 NOT is BARRED", x, 3, 6, 2, 0);
    }

    private static void programIsNotLookedAt() {
        ShortestCode x = Bench.of(4, 1);
        x.add(0, 0, 0);
        x.add(1, 1, 0);
        x.aim();
        check.due("15 search(1)", x.search(1, 1000, 0), -5);
        check.told("15 search(1)", x, 13, 1, 0, -5);
        check.due("15 search(2)", x.search(2, 1000, 0), 2);
        check.program("15 THE PROGRAM stays", x, 2, 0, 0, 0, 1, 1, 0);
        check.due("15 its VALUES stay", x.value(1, 3), 12);
        check.due("15 its VALUES stay", x.value(2, 3), 4);
    }

    private static void first() {
        ShortestCode x = Bench.of(3, 1);
        // a + a, a * 2 and a moved by 1 are all the same; the sum stands first.
        x.constant(2);
        x.constant(1);
        Bench.aimAt(x, 8, 0, 2);
        check.due("15 the first", x.search(3, 30000, 0), 1);
        // 3 NOT, 3 NEG, 6 AND, 6 OR, 6 XOR, then + of 0, 0.
        check.told("15 the first", x, 25, 1, 1, 1);
        x.take();
        check.program("15 the first", x, 3, 5, 0, 0);
    }

    private static void all() {
        ShortestCode x = Bench.of(3, 1, 2, 1);
        Bench.aimAt(x, 8, 0, 2);
        check.due("15 ALL", x.search(3, 30000, 1), 1);
        // 3 NOT and NEG each, 6 of six OPERATIONS, 9 of the other five.
        check.told("15 ALL", x, 87, 1, 3, 1);
        x.take();
        check.program("15 the first counts", x, 3, 5, 0, 0);
        // In the round in which it is: all its rows, whatever stands before the last.
        x = Bench.of(4, 1);
        Bench.only(x, 0, 1, 1, 1);
        x.add(0, 0, 0);
        x.add(1, 1, 0);
        x.aim();
        check.due("15 ALL of round 2", x.search(9, 30000, 1), 2);
        // Round 1: 2. Round 2: NOT 0 and NOT 0, NOT 1, NEG 0, NEG 1; NEG 0 and as many.
        check.told("15 ALL of round 2", x, 12, 2, 1, 2);
        x = Bench.of(2, 1, 0);
        Bench.only(x, 6, 1, 5, 1);
        Bench.aimAt(x, 1, 0, 0);
        check.due("15 0 - a", x.search(5, 30000, 1), 1);
        check.told("15 0 - a", x, 7, 1, 1, 1);
    }

    private static void spent() {
        ShortestCode x = Bench.of(4, 1);
        Bench.aimAt(x, 5, 0, 0);
        check.due("15 5 TRIES", x.search(1, 5, 0), -6);
        check.told("15 5 TRIES", x, 5, 1, 0, -6);
        check.due("15 6 TRIES", x.search(1, 6, 0), 1);
        check.told("15 6 TRIES", x, 6, 1, 1, 1);
        check.due("15 0 TRIES", x.search(1, 0, 0), -6);
        check.told("15 0 TRIES", x, 0, 1, 0, -6);
        check.due("15 0 TRIES, COST 0", x.search(0, 0, 0), -5);
        check.told("15 0 TRIES, COST 0", x, 0, 0, 0, -5);
        Bench.aimNowhere(x);
        check.due("15 just enough", x.search(1, 13, 0), -5);
        check.told("15 just enough", x, 13, 1, 0, -5);
        check.due("15 one too few", x.search(1, 12, 0), -6);
        check.told("15 one too few", x, 12, 1, 0, -6);
        check.due("15 round 2 begins", x.search(2, 13, 0), -6);
        check.told("15 round 2 begins", x, 13, 2, 0, -6);
        check.due("15 within a row", x.search(2, 14, 1), -6);
        check.told("15 within a row", x, 14, 2, 0, -6);
        check.due("15 the most", x.search(30, 30000, 1), -6);
        check.due("15 the most", x.told(0), 30000);
    }

    private static void spentAfterFound() {
        ShortestCode x = Bench.of(4, 1);
        Bench.aimAt(x, 5, 0, 0);
        check.due("15 SPENT behind it", x.search(1, 12, 1), -6);
        check.told("15 SPENT behind it", x, 12, 1, 1, -6);
        check.due("15 and it is not taken", x.take(), -3);
        check.due("15 to the end", x.search(1, 13, 1), 1);
        check.told("15 to the end", x, 13, 1, 1, 1);
        Bench.aimAt(x, 0, 0, 0);
        check.due("15 SPENT at once", x.search(1, 1, 1), -6);
        check.told("15 SPENT at once", x, 1, 1, 1, -6);
        check.due("15 what was FOUND before stays", x.take(), 1);
        check.program("15 what was FOUND before stays", x, 1, 5, 0, 0);
    }

    /**
     * The longest rows that were found to be within 30000 TRIES have 10 INSTRUCTIONS: all rounds before
     * are gone through first. That a 13th place is not filled shows in no answer that is known here.
     */
    private static void longRows() {
        ShortestCode x = Bench.of(1, 1);
        Bench.only(x, 12, 1);
        x.target(0, 1);
        // a = a is 1 always, a = 1 is a again: round 1 has 1 TRY, each later one 1 and 3 behind it.
        check.due("15 alike alone", x.search(30, 30000, 0), -5);
        check.told("15 alike alone", x, 1 + 29 * 4, 30, 0, -5);
        x = Bench.of(4, 1);
        Bench.only(x, 0, 9);
        Bench.aimNowhere(x);
        // Rounds 1 .. 8: none; 9 .. 17: NOT 0; 18 .. 30: NOT 0 and two behind it.
        check.due("15 NOT for 9", x.search(30, 30000, 0), -5);
        check.told("15 NOT for 9", x, 9 + 13 * 3, 30, 0, -5);
        Bench.only(x, 0, 6, 1, 1);
        check.due("15 NOT and NEG in turn", x.search(30, 30000, 1), -5);
        check.told("15 NOT and NEG in turn", x, 27987, 30, 0, -5);
        // Six INSTRUCTIONS, NOT and NEG in turn, each on the one before: a + 3.
        for (int s = 0; s < 16; s++) {
            x.target(s, s + 3 & 15);
        }
        check.due("15 a + 3", x.search(30, 30000, 0), 21);
        check.due("15 a + 3", x.take(), 6);
        check.program("15 a + 3", x, 6, 0, 0, 0, 1, 1, 0, 0, 2, 0, 1, 3, 0, 0, 4, 0, 1, 5, 0);
        check.due("15 its COST", x.count(5), 21);
    }

    private static void allBarred() {
        ShortestCode x = Bench.of(4, 2);
        Bench.only(x);
        x.target(7, 7);
        check.due("15 all BARRED", x.search(7, 0, 0), -5);
        check.told("15 all BARRED", x, 0, 7, 0, -5);
        x.result(1);
        x.aim();
        check.due("15 COST 0 all the same", x.search(7, 0, 1), 0);
    }

    private static void outside() {
        ShortestCode x = Bench.of(4, 1);
        Bench.aimAt(x, 0, 0, 0);
        check.due("15 search", x.search(1, 2, 0), 1);
        int[][] wrong = {
            {-1, 0, 0}, {31, 0, 0}, {MIN, 0, 0}, {MAX, 0, 0},
            {0, -1, 0}, {0, 30001, 0}, {0, MIN, 0}, {0, MAX, 0},
            {0, 0, -1}, {0, 0, 2}, {0, 0, MIN}, {0, 0, MAX}, {31, 30001, 2}};
        for (int[] w : wrong) {
            String call = "15 search(" + w[0] + ", " + w[1] + ", " + w[2] + ")";
            check.due(call, x.search(w[0], w[1], w[2]), -2);
            check.told(call, x, 1, 1, 1, 1);
        }
        check.due("15 refused keeps FOUND", x.take(), 1);
        check.due("15 the edges", x.search(30, 30000, 1), 1);
        check.due("15 the edges", x.search(0, 0, 0), -5);
    }

    private static void told() {
        ShortestCode x = Bench.of(4, 1);
        check.told("16 before any", x, 0, 0, 0, -3);
        x.search(31, 0, 0);
        check.told("16 before any but -2", x, 0, 0, 0, -3);
        check.due("16 told(4)", x.told(4), -2);
        check.due("16 told(-1)", x.told(-1), -2);
        check.due("16 told(MIN)", x.told(MIN), -2);
        check.due("16 told(MAX)", x.told(MAX), -2);
        Bench.aimAt(x, 1, 0, 0);
        x.search(3, 30000, 1);
        check.told("16 the latest", x, 13, 1, 1, 1);
        x.words(2, 2);
        x.constant(1);
        x.add(0, 0, 0);
        x.take();
        check.told("16 the latest still", x, 13, 1, 1, 1);
    }

    private static void take() {
        ShortestCode x = Bench.of(4, 2, 3);
        check.due("17 nothing yet", x.take(), -3);
        Bench.aimAt(x, 7, 1, 2);
        check.due("17 search", x.search(1, 30000, 0), 1);
        x.add(0, 0, 0);
        x.add(0, 1, 0);
        x.result(1);
        check.due("17 take()", x.take(), 1);
        check.program("17 take()", x, 3, 7, 1, 2);
        check.due("17 its VALUE", x.differ(3, -2), -5);
        check.due("17 its VALUE", x.value(3, 0x70), 5);
        x.drop();
        check.due("17 again", x.take(), 1);
        check.program("17 again", x, 3, 7, 1, 2);
        x.add(6, 3, 0);
        x.aim();
        check.due("17 none", x.search(1, 30000, 0), -5);
        check.due("17 FOUND before stays", x.take(), 1);
        check.program("17 FOUND before stays", x, 3, 7, 1, 2);
        check.due("17 with THE PROGRAM there", x.constant(1), -3);
        check.due("17 FOUND stays", x.take(), 1);
        x.result(0);
        x.aim();
        check.due("17 COST 0", x.search(1, 30000, 0), 0);
        check.due("17 the latest", x.take(), 0);
        check.program("17 the latest", x, 0);
        x.cost(7, 0);
        x.target(0, 0);
        check.due("17 COSTS and TARGET leave it", x.take(), 0);
        x.words(4, 2);
        check.due("17 words()", x.take(), -3);
        check.program("17 refused", x, 0);
    }
}

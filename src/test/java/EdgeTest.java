/**
 * The edges that promises 1 to 14 name beside their refusals (those are in RefusalTest): the least and the
 * most, empty and full, what wraps around. Each has a test of its own.
 */
public final class EdgeTest {
    private static final Check check = new Check("EdgeTest");

    public static void main(String[] args) {
        newObjectHasOneInputOfFourBits();
        newObjectIsEmpty();
        newObjectCostsOneEach();
        newObjectHasTargetZero();
        howManyAssignments();
        lowestBitsAreInputZero();
        wordsTakesConstantsAway();
        wordsTakesInstructionsAway();
        wordsSetsResultToZero();
        wordsSetsTargetToZero();
        wordsForgetsWhatWasFound();
        wordsLeavesCosts();
        wordsAsTheyWere();
        constantsStandBehindInputs();
        constantsMayBeAlike();
        constantAgainWhenEmpty();
        constantForgetsWhatWasFound();
        constantLeavesTheRest();
        costFromBarredToNine();
        targetOverAndOver();
        aimChangesNoneOrAll();
        aimChangesTheLastAlone();
        aimOfAnotherThanTheLast();
        addOnTheVeryLast();
        addMakesItResult();
        addOfOneOperandTellsZero();
        addAfterDropHasTheNumberAgain();
        sumsWrapAround();
        differencesWrapAround();
        productsWrapAround();
        negationWrapsAround();
        notStaysAWord();
        movedLeftWrapsAround();
        movedRightWrapsAround();
        movedRightWithTheHighestBit();
        oneBitIsNeverMoved();
        lessIsWithoutSign();
        alikeIsOneOrZero();
        barredRunsAndCostsNothing();
        dropOfTheFirst();
        dropSetsResultToZero();
        dropLeavesAnotherResult();
        resultIsWhatItWas();
        costOfTheDearest();
        differAtTheFirstAndAtTheLast();
        differFromTargetAlone();
        cleanOfNone();
        cleanOfTwelve();
        cleanKeepsTwelve();
        cleanToInputZero();
        cleanTwoAtTheEnd();
        cleanLeastInstructionFirst();
        cleanLeastSuchValue();
        cleanMovesResultDown();
        cleanHangsThroughMany();
        theLastOfManyCalls();
        check.end();
    }

    private static void newObjectHasOneInputOfFourBits() {
        ShortestCode x = new ShortestCode();
        check.due("1 W", x.count(0), 4);
        check.due("1 INPUTS", x.count(1), 1);
        for (int s = 0; s < 16; s++) {
            check.due("1 INPUT 0 for " + s, x.value(0, s), s);
        }
    }

    private static void newObjectIsEmpty() {
        ShortestCode x = new ShortestCode();
        check.due("1 CONSTANTS", x.count(2), 0);
        check.due("1 INSTRUCTIONS", x.count(3), 0);
        check.due("1 RESULT", x.count(4), 0);
        check.due("1 COST", x.count(5), 0);
        check.due("1 no VALUE but INPUT 0", x.result(1), -1);
        check.due("1 nothing FOUND", x.take(), -3);
        check.due("1 no search yet", x.told(3), -3);
    }

    private static void newObjectCostsOneEach() {
        ShortestCode x = new ShortestCode();
        for (int operation = 0; operation < 13; operation++) {
            check.due("1 COST of " + operation, x.cost(operation, 0), 1);
        }
    }

    private static void newObjectHasTargetZero() {
        ShortestCode x = new ShortestCode();
        for (int s = 0; s < 16; s++) {
            check.due("1 TARGET for " + s, x.target(s, 15), 0);
        }
    }

    private static void howManyAssignments() {
        int[][] due = {{2, 4}, {4, 16}, {8, 64}, {16, 256}};
        for (int w = 1; w <= 4; w++) {
            check.due("2 words(" + w + ", 1)", new ShortestCode().words(w, 1), due[w - 1][0]);
            check.due("2 words(" + w + ", 2)", new ShortestCode().words(w, 2), due[w - 1][1]);
        }
    }

    private static void lowestBitsAreInputZero() {
        ShortestCode x = Bench.of(4, 2);
        check.due("2 INPUT 0 of 0xA3", x.value(0, 0xA3), 3);
        check.due("2 INPUT 1 of 0xA3", x.value(1, 0xA3), 10);
        check.due("2 INPUT 0 of 255", x.value(0, 255), 15);
        check.due("2 INPUT 1 of 255", x.value(1, 255), 15);
        check.due("2 INPUT 0 of 16", x.value(0, 16), 0);
        check.due("2 INPUT 1 of 16", x.value(1, 16), 1);
        check.due("2 INPUT 0 of 15", x.value(0, 15), 15);
        check.due("2 INPUT 1 of 15", x.value(1, 15), 0);
        x = Bench.of(1, 2);
        check.due("2 one bit: INPUT 0 of 2", x.value(0, 2), 0);
        check.due("2 one bit: INPUT 1 of 2", x.value(1, 2), 1);
        check.due("2 one bit: INPUT 0 of 1", x.value(0, 1), 1);
        check.due("2 one bit: INPUT 1 of 1", x.value(1, 1), 0);
    }

    /** 4 CONSTANTS, 12 INSTRUCTIONS, RESULT the last of them and TARGET. */
    private static ShortestCode full() {
        ShortestCode x = Bench.of(3, 2, 7, 1, 1, 0);
        for (int i = 0; i < 12; i++) {
            x.add(i % 2 == 0 ? 5 : 6, 5 + i, i % 6);
        }
        x.aim();
        return x;
    }

    private static void wordsTakesConstantsAway() {
        ShortestCode x = full();
        x.words(3, 2);
        check.due("2 no CONSTANTS", x.count(2), 0);
        check.due("2 their VALUES are gone", x.value(2, 0), -1);
        check.due("2 the next is the first", x.constant(5), 2);
        check.due("2 with its own WORD", x.value(2, 63), 5);
    }

    private static void wordsTakesInstructionsAway() {
        ShortestCode x = full();
        x.words(3, 2);
        check.due("2 no INSTRUCTIONS", x.count(3), 0);
        check.due("2 none is told", x.instruction(0, 0), -1);
        check.due("2 none to drop", x.drop(), -3);
        for (int i = 0; i < 12; i++) {
            check.due("2 room for twelve", x.add(0, i, 0), 2 + i);
        }
    }

    private static void wordsSetsResultToZero() {
        ShortestCode x = full();
        x.words(4, 1);
        check.due("2 RESULT, behind INSTRUCTIONS", x.count(4), 0);
        x = Bench.of(4, 2);
        x.result(1);
        x.words(4, 2);
        check.due("2 RESULT, behind INPUT 1", x.count(4), 0);
    }

    private static void wordsSetsTargetToZero() {
        ShortestCode x = Bench.of(3, 2);
        for (int s = 0; s < 64; s++) {
            x.target(s, 7);
        }
        x.words(2, 1);
        for (int s = 0; s < 4; s++) {
            check.due("2 TARGET for " + s, x.target(s, 3), 0);
        }
        x.words(3, 2);
        for (int s = 0; s < 64; s++) {
            check.due("2 TARGET for " + s + " again", x.target(s, 0), 0);
        }
    }

    private static void wordsForgetsWhatWasFound() {
        ShortestCode x = Bench.of(3, 2);
        x.aim();
        check.due("2 search", x.search(0, 0, 0), 0);
        check.due("2 words", x.words(3, 2), 64);
        check.due("2 nothing FOUND", x.take(), -3);
    }

    private static void wordsLeavesCosts() {
        ShortestCode x = new ShortestCode();
        for (int operation = 0; operation < 13; operation++) {
            x.cost(operation, operation % 10);
        }
        x.words(1, 2);
        for (int operation = 0; operation < 13; operation++) {
            check.due("2 COST of " + operation, x.cost(operation, 1), operation % 10);
        }
    }

    private static void wordsAsTheyWere() {
        ShortestCode x = full();
        check.due("2 the same again", x.words(3, 2), 64);
        check.due("2 W", x.count(0), 3);
        check.due("2 INPUTS", x.count(1), 2);
        check.program("2 and empty", x, 0);
        check.due("2 and empty", x.count(2), 0);
    }

    private static void constantsStandBehindInputs() {
        for (int n = 1; n <= 2; n++) {
            ShortestCode x = Bench.of(4, n);
            for (int i = 0; i < 4; i++) {
                check.due("3 CONSTANT " + i, x.constant(15 - i), n + i);
                check.due("3 how many", x.count(2), i + 1);
            }
            for (int i = 0; i < 4; i++) {
                check.due("3 for the first ASSIGNMENT", x.value(n + i, 0), 15 - i);
                check.due("3 for the last ASSIGNMENT", x.value(n + i, n == 1 ? 15 : 255), 15 - i);
            }
            check.due("3 an INSTRUCTION stands behind them", x.add(0, 0, 0), n + 4);
        }
    }

    private static void constantsMayBeAlike() {
        ShortestCode x = Bench.of(1, 1);
        check.due("3 the first", x.constant(1), 1);
        check.due("3 the same", x.constant(1), 2);
        check.due("3 they are alike", x.differ(1, 2), -5);
    }

    private static void constantAgainWhenEmpty() {
        ShortestCode x = Bench.of(2, 1);
        x.add(0, 0, 0);
        check.due("3 not now", x.constant(2), -3);
        x.result(0);
        check.due("3 cleaned", x.clean(), 1);
        check.due("3 now", x.constant(2), 1);
        x.result(1);
        x.aim();
        x.add(0, 0, 0);
        x.search(0, 0, 0);
        check.due("3 not now", x.constant(3), -3);
        check.due("3 one without INSTRUCTIONS", x.take(), 0);
        check.due("3 now", x.constant(3), 2);
        check.due("3 RESULT stays", x.count(4), 1);
    }

    private static void constantForgetsWhatWasFound() {
        ShortestCode x = Bench.of(2, 1);
        x.aim();
        x.search(0, 0, 0);
        check.due("3 FOUND", x.take(), 0);
        x.constant(0);
        check.due("3 gone", x.take(), -3);
        check.due("3 FOUND again", x.search(0, 0, 0), 0);
        check.due("3 there again", x.take(), 0);
    }

    private static void constantLeavesTheRest() {
        ShortestCode x = Bench.of(2, 2);
        x.result(1);
        x.aim();
        x.cost(3, 0);
        x.constant(3);
        check.due("3 RESULT", x.count(4), 1);
        check.due("3 TARGET", x.differ(1, -2), -5);
        check.due("3 COST", x.cost(3, 1), 0);
    }

    private static void costFromBarredToNine() {
        ShortestCode x = new ShortestCode();
        for (int c = 0; c <= 9; c++) {
            check.due("4 cost(0, " + c + ")", x.cost(0, c), c == 0 ? 1 : c - 1);
            check.due("4 cost(12, " + (9 - c) + ")", x.cost(12, 9 - c), c == 0 ? 1 : 10 - c);
        }
        check.due("4 the same again", x.cost(0, 9), 9);
        check.due("4 another is left alone", x.cost(1, 1), 1);
    }

    private static void targetOverAndOver() {
        ShortestCode x = Bench.of(4, 2);
        check.due("5 the first", x.target(0, 15), 0);
        check.due("5 the same again", x.target(0, 15), 15);
        check.due("5 back", x.target(0, 0), 15);
        check.due("5 the last", x.target(255, 15), 0);
        check.due("5 the last again", x.target(255, 1), 15);
        check.due("5 one before is left alone", x.target(254, 0), 0);
    }

    private static void aimChangesNoneOrAll() {
        ShortestCode x = Bench.of(4, 2, 0, 15);
        x.result(2);
        check.due("6 none", x.aim(), 0);
        x.result(3);
        check.due("6 all", x.aim(), 256);
        check.due("6 none again", x.aim(), 0);
        check.due("6 the first", x.target(0, 15), 15);
        check.due("6 the last", x.target(255, 15), 15);
        x = Bench.of(1, 1, 1);
        x.result(1);
        check.due("6 all of the fewest", x.aim(), 2);
    }

    private static void aimChangesTheLastAlone() {
        ShortestCode x = Bench.of(3, 2);
        x.result(1);
        x.aim();
        x.target(63, 0);
        check.due("6 the last", x.aim(), 1);
        check.due("6 as due", x.target(63, 7), 7);
        x.target(0, 5);
        check.due("6 the first", x.aim(), 1);
    }

    private static void aimOfAnotherThanTheLast() {
        ShortestCode x = Bench.of(2, 1);
        x.add(0, 0, 0);
        x.add(1, 0, 0);
        x.result(1);
        check.due("6 RESULT, not the last", x.aim(), 3);
        check.due("6 RESULT, not the last", x.differ(1, -2), -5);
    }

    private static void addOnTheVeryLast() {
        ShortestCode x = Bench.of(4, 1);
        check.due("7 INPUT 0 twice", x.add(5, 0, 0), 1);
        check.due("7 the last as a", x.add(5, 1, 0), 2);
        check.due("7 the last as b", x.add(5, 0, 2), 3);
        check.due("7 the last twice", x.add(5, 3, 3), 4);
        check.due("7 8 a", x.value(4, 1), 8);
        check.program("7 all four", x, 4, 5, 0, 0, 5, 1, 0, 5, 0, 2, 5, 3, 3);
    }

    private static void addMakesItResult() {
        ShortestCode x = Bench.of(4, 2);
        x.add(5, 0, 1);
        x.result(1);
        check.due("7 add", x.add(6, 0, 1), 3);
        check.due("7 RESULT", x.count(4), 3);
        for (int i = 2; i < 12; i++) {
            x.add(5, 0, 1);
        }
        check.due("7 RESULT is the 12th", x.count(4), 13);
    }

    private static void addOfOneOperandTellsZero() {
        ShortestCode x = Bench.of(4, 2, 9);
        check.due("7 NOT", x.add(0, 2, 1), 3);
        check.due("7 NEG", x.add(1, 3, 3), 4);
        check.due("7 b of NOT", x.instruction(0, 2), 0);
        check.due("7 b of NEG", x.instruction(1, 2), 0);
        check.due("7 a of NEG", x.instruction(1, 1), 3);
        check.due("7 NOT of a alone", x.value(3, 0xF1), 6);
        check.due("7 NEG of a alone", x.value(4, 0xF1), 10);
    }

    private static void addAfterDropHasTheNumberAgain() {
        ShortestCode x = full();
        x.drop();
        check.due("7 the 12th again", x.add(12, 0, 0), 17);
        check.due("7 another VALUE", x.value(17, 63), 1);
        check.due("7 another OPERATION", x.instruction(11, 0), 12);
        check.due("7 and no 13th", x.add(12, 0, 0), -4);
    }

    /** The OPERATION on WORDS a, b of w bits. */
    private static void runs(int w, int operation, int a, int b, int due) {
        ShortestCode x = Bench.of(w, 2);
        x.add(operation, 0, 1);
        String call = "7 W " + w + ", operation " + operation + " of " + a + ", " + b;
        check.due(call, x.value(2, a | b << w), due);
    }

    private static void sumsWrapAround() {
        for (int w = 1; w <= 4; w++) {
            int top = (1 << w) - 1;
            runs(w, 5, top, 1, 0);
            runs(w, 5, 1, top, 0);
            runs(w, 5, top, top, top - 1);
            runs(w, 5, top, 0, top);
        }
    }

    private static void differencesWrapAround() {
        for (int w = 1; w <= 4; w++) {
            int top = (1 << w) - 1;
            runs(w, 6, 0, 1, top);
            runs(w, 6, 0, top, 1);
            runs(w, 6, 1, 1, 0);
            runs(w, 6, top, 0, top);
        }
    }

    private static void productsWrapAround() {
        for (int w = 1; w <= 4; w++) {
            int top = (1 << w) - 1;
            runs(w, 7, top, top, 1);
            runs(w, 7, top, 1, top);
            runs(w, 7, 0, top, 0);
        }
        runs(4, 7, 4, 4, 0);
        runs(4, 7, 15, 2, 14);
        runs(3, 7, 3, 3, 1);
        runs(2, 7, 2, 2, 0);
    }

    private static void negationWrapsAround() {
        for (int w = 1; w <= 4; w++) {
            int top = (1 << w) - 1;
            int half = 1 << (w - 1);
            runs(w, 1, 0, top, 0);
            runs(w, 1, 1, 0, top);
            runs(w, 1, top, 0, 1);
            runs(w, 1, half, 0, half);
        }
    }

    private static void notStaysAWord() {
        for (int w = 1; w <= 4; w++) {
            int top = (1 << w) - 1;
            runs(w, 0, 0, top, top);
            runs(w, 0, top, 0, 0);
            runs(w, 0, 1, 1, top - 1);
        }
    }

    private static void movedLeftWrapsAround() {
        for (int w = 2; w <= 4; w++) {
            int top = (1 << w) - 1;
            int half = 1 << (w - 1);
            runs(w, 8, top, 0, top);
            runs(w, 8, top, w - 1, half);
            runs(w, 8, top, w, top);
            runs(w, 8, half, 1, 0);
            runs(w, 8, 1, top, 1 << top % w);
        }
        runs(4, 8, 1, 5, 2);
        runs(4, 8, 1, 8, 1);
        runs(3, 8, 1, 4, 2);
        runs(3, 8, 1, 6, 1);
        runs(2, 8, 1, 3, 2);
    }

    private static void movedRightWrapsAround() {
        for (int w = 2; w <= 4; w++) {
            int top = (1 << w) - 1;
            runs(w, 9, top, 0, top);
            runs(w, 9, top, w - 1, 1);
            runs(w, 9, top, w, top);
            runs(w, 9, 1, 1, 0);
            runs(w, 9, top, top, top >> top % w);
        }
        runs(4, 9, 8, 15, 1);
        runs(3, 9, 4, 5, 1);
        runs(3, 9, 4, 7, 2);
    }

    private static void movedRightWithTheHighestBit() {
        for (int w = 2; w <= 4; w++) {
            int top = (1 << w) - 1;
            int half = 1 << (w - 1);
            runs(w, 10, half, 0, half);
            runs(w, 10, half, w - 1, top);
            runs(w, 10, half, w, half);
            runs(w, 10, half - 1, 1, (half - 1) / 2);
            runs(w, 10, half - 1, w - 1, 0);
            runs(w, 10, top, 1, top);
        }
        runs(4, 10, 8, 5, 12);
        runs(4, 10, 10, 2, 14);
        runs(3, 10, 4, 4, 6);
        runs(3, 10, 5, 2, 7);
    }

    /** b mod 1 is 0. */
    private static void oneBitIsNeverMoved() {
        for (int operation = 8; operation <= 10; operation++) {
            for (int a = 0; a <= 1; a++) {
                runs(1, operation, a, 0, a);
                runs(1, operation, a, 1, a);
            }
        }
    }

    private static void lessIsWithoutSign() {
        for (int w = 1; w <= 4; w++) {
            int top = (1 << w) - 1;
            runs(w, 11, 0, top, 1);
            runs(w, 11, top, 0, 0);
            runs(w, 11, top - 1, top, 1);
            runs(w, 11, top, top, 0);
            runs(w, 11, 0, 0, 0);
        }
        runs(4, 11, 7, 8, 1);
        runs(4, 11, 8, 7, 0);
    }

    private static void alikeIsOneOrZero() {
        for (int w = 1; w <= 4; w++) {
            int top = (1 << w) - 1;
            runs(w, 12, 0, 0, 1);
            runs(w, 12, top, top, 1);
            runs(w, 12, 0, top, 0);
            runs(w, 12, top, top - 1, 0);
        }
    }

    private static void barredRunsAndCostsNothing() {
        ShortestCode x = Bench.of(4, 1);
        x.cost(5, 0);
        check.due("7 BARRED is added", x.add(5, 0, 0), 1);
        check.due("7 BARRED runs", x.value(1, 9), 2);
        check.due("11 BARRED costs nothing", x.count(5), 0);
        x.add(0, 1, 0);
        check.due("11 beside another", x.count(5), 1);
        x.cost(5, 9);
        check.due("11 no longer BARRED", x.count(5), 10);
    }

    private static void dropOfTheFirst() {
        ShortestCode x = full();
        for (int left = 11; left >= 0; left--) {
            check.due("8 left", x.drop(), left);
            check.due("8 count", x.count(3), left);
            check.due("8 the VALUE is gone", x.value(6 + left, 0), -1);
        }
        check.due("8 none is left", x.drop(), -3);
    }

    private static void dropSetsResultToZero() {
        ShortestCode x = Bench.of(4, 2, 1);
        x.add(5, 0, 1);
        x.add(5, 0, 1);
        x.drop();
        check.due("8 RESULT was the last", x.count(4), 0);
        x.result(3);
        x.drop();
        check.due("8 RESULT was the only one", x.count(4), 0);
    }

    private static void dropLeavesAnotherResult() {
        ShortestCode x = Bench.of(4, 2, 1);
        x.add(5, 0, 1);
        x.add(5, 0, 1);
        x.result(3);
        x.drop();
        check.due("8 RESULT is the one before", x.count(4), 3);
        x.result(2);
        x.drop();
        check.due("8 RESULT is a CONSTANT", x.count(4), 2);
    }

    private static void resultIsWhatItWas() {
        ShortestCode x = full();
        check.due("9 the last of all", x.result(0), 17);
        check.due("9 the first", x.result(17), 0);
        check.due("9 the same", x.result(17), 17);
    }

    private static void costOfTheDearest() {
        ShortestCode x = full();
        x.cost(5, 9);
        x.cost(6, 9);
        check.due("11 twelve for 9", x.count(5), 108);
        x.cost(5, 0);
        x.cost(6, 0);
        check.due("11 twelve for nothing", x.count(5), 0);
        check.due("11 of none", Bench.of(1, 1).count(5), 0);
    }

    private static void differAtTheFirstAndAtTheLast() {
        ShortestCode x = Bench.of(4, 2, 15, 0);
        x.add(2, 0, 1); // 4: 15 for the last ASSIGNMENT alone
        x.add(12, 4, 2); // 5: 1 for the last ASSIGNMENT alone
        check.due("13 the last", x.differ(5, 3), 255);
        check.due("13 the last, turned", x.differ(3, 5), 255);
        check.due("13 the first", x.differ(2, 3), 0);
        check.due("13 none", x.differ(4, 4), -5);
        x = Bench.of(1, 1, 0);
        check.due("13 of the fewest", x.differ(0, 1), 1);
    }

    private static void differFromTargetAlone() {
        ShortestCode x = Bench.of(4, 2);
        x.result(1);
        x.aim();
        check.due("13 alike", x.differ(1, -2), -5);
        x.target(255, 14);
        check.due("13 the last", x.differ(1, -2), 255);
        x.target(0, 1);
        check.due("13 the first", x.differ(1, -2), 0);
        check.due("13 another VALUE", x.differ(0, -2), 0);
    }

    private static void cleanOfNone() {
        check.due("14 of a new one", new ShortestCode().clean(), 0);
        ShortestCode x = Bench.of(2, 2, 1, 1);
        x.result(3);
        check.due("14 without INSTRUCTIONS", x.clean(), 0);
        check.due("14 CONSTANTS that are alike stay", x.count(2), 2);
        check.due("14 RESULT stays", x.count(4), 3);
    }

    private static void cleanOfTwelve() {
        ShortestCode x = full();
        x.result(1);
        check.due("14 all of them", x.clean(), 12);
        check.program("14 RESULT is INPUT 1", x, 1);
        check.due("14 CONSTANTS stay", x.count(2), 4);
        check.due("14 again", x.clean(), 0);
    }

    private static void cleanKeepsTwelve() {
        ShortestCode x = Bench.of(4, 1, 1);
        for (int i = 0; i < 12; i++) {
            x.add(5, i == 0 ? 0 : 1 + i, 1);
        }
        check.due("14 none of them", x.clean(), 0);
        check.due("14 twelve", x.count(3), 12);
        check.due("14 a + 12", x.value(13, 5), 1);
        check.due("14 RESULT", x.count(4), 13);
        x = Bench.of(4, 2, 1, 2, 4, 8);
        for (int i = 0; i < 12; i++) {
            x.add(5, i == 0 ? 0 : 5 + i, 2);
        }
        check.due("14 none of them, with all 18 VALUES", x.clean(), 0);
        check.due("14 a + 12", x.value(17, 5), 1);
    }

    private static void cleanToInputZero() {
        ShortestCode x = Bench.of(4, 2);
        x.add(6, 1, 0); // 2
        x.add(6, 1, 2); // 3 is 0
        x.add(5, 3, 2); // 4 is 1
        x.add(7, 3, 4); // 5
        check.due("14 three go", x.clean(), 3);
        check.program("14 of the INPUTS alone", x, 2, 7, 0, 1);
    }

    /** What hung on RESULT before something went does not do so for ever. */
    private static void cleanTwoAtTheEnd() {
        ShortestCode x = Bench.of(4, 2);
        x.add(7, 0, 1); // 2
        x.add(6, 0, 1); // 3: nobody's but 4's
        x.add(0, 3, 0); // 4: nobody's
        x.result(2);
        check.due("14 two go", x.clean(), 2);
        check.program("14 RESULT's alone", x, 2, 7, 0, 1);
        x.add(0, 2, 0);
        x.add(1, 3, 0);
        x.result(0);
        check.due("14 another RESULT: three go", x.clean(), 3);
        check.program("14 another RESULT", x, 0);
    }

    /** The later one of two that are alike goes, whichever RESULT is. */
    private static void cleanLeastInstructionFirst() {
        ShortestCode x = Bench.of(4, 2);
        x.add(6, 0, 1); // 2
        x.add(6, 1, 0); // 3
        x.add(1, 3, 0); // 4 is 2
        x.add(1, 2, 0); // 5 is 3
        x.add(3, 4, 5); // 6
        check.due("14 two go", x.clean(), 2);
        check.program("14 the first two stay", x, 4, 6, 0, 1, 6, 1, 0, 3, 2, 3);
    }

    private static void cleanLeastSuchValue() {
        ShortestCode x = Bench.of(2, 2, 2, 2);
        x.add(3, 3, 2); // 4 is 2 and 3
        check.due("14 one goes", x.clean(), 1);
        check.program("14 RESULT is the least", x, 2);
    }

    private static void cleanMovesResultDown() {
        ShortestCode x = Bench.of(4, 2);
        x.add(2, 0, 0); // 2 is 0
        x.add(5, 0, 1); // 3
        x.add(6, 0, 1); // 4
        x.result(3);
        check.due("14 two go", x.clean(), 2);
        check.program("14 RESULT has a number less", x, 2, 5, 0, 1);
        check.due("14 its VALUE", x.value(2, 0x21), 3);
    }

    /** RESULT hangs on the first through all twelve; one that nobody has goes from their midst. */
    private static void cleanHangsThroughMany() {
        ShortestCode x = Bench.of(4, 2, 1);
        for (int i = 0; i < 6; i++) {
            x.add(5, i == 0 ? 0 : 2 + i, 2);
        }
        x.add(7, 0, 1); // 9: nobody's
        for (int i = 0; i < 5; i++) {
            x.add(5, i == 0 ? 8 : 9 + i, 2);
        }
        check.due("14 one goes", x.clean(), 1);
        check.due("14 eleven stay", x.count(3), 11);
        check.due("14 RESULT", x.count(4), 13);
        check.due("14 a + 11", x.value(13, 2), 13);
        check.due("14 the one behind it", x.instruction(6, 1), 8);
        check.due("14 the next", x.instruction(7, 1), 9);
    }

    /** An object is used for 512 calls; the last of them is answered as the others are. */
    private static void theLastOfManyCalls() {
        ShortestCode x = new ShortestCode();
        x.words(4, 2);
        x.add(5, 0, 1);
        for (int call = 2; call < 511; call++) {
            x.result(call % 2);
        }
        check.due("the 512th call", x.result(2), 0);
    }
}

import java.lang.reflect.Field;
import java.lang.reflect.Method;

/**
 * The edges that promises 15 to 17 and THE SEARCH name beside their refusals (those are in RefusalTest): the
 * least and the most, what is just enough, what comes first. Each has a test of its own.
 */
public final class SearchEdgeTest {
    private static final Check check = new Check("SearchEdgeTest");
    private static final int NOT = 0;
    private static final int NEG = 1;

    public static void main(String[] args) throws ReflectiveOperationException {
        costZeroIsOfGivenValuesAlone();
        costZeroIsTheLeastSuchValue();
        costZeroTakesNoTry();
        costZeroIsOneAlsoOfAll();
        costZeroIsForAllAssignments();
        costZeroAlone();
        costJustEnough();
        costThirty();
        roundsUpToTheCost();
        roundsUpToTheFound();
        dearerThanTheTotal();
        dearerThanWhatIsLeft();
        barredIsNotLookedAt();
        allBarred();
        oneOperandHasNoB();
        aAboveBIsNotLookedAt();
        likeOperandsAreLookedAt();
        tryWrapsAroundAsWordsDo();
        byOperationThenAThenB();
        notBehindAnInputAgain();
        notBehindAConstantAgain();
        notBehindAnInstructionAgain();
        behindWhatIsNewForOneAssignment();
        noThirteenthPlace();
        theProgramIsNotLookedAt();
        spentByOneTry();
        spentWithNoTry();
        spentInTheRoundThatBegins();
        foundByTheLastTry();
        allJustEnough();
        allInItsRoundAlone();
        firstOfAllCounts();
        spentFoundSoFar();
        foundStaysWhenNoneIs();
        foundStaysWhenSpent();
        foundStaysWhenOutside();
        toldBeforeAny();
        toldOfTheLatest();
        takeOfNoInstructions();
        takeInsteadOfTwelve();
        takeTheLatest();
        takeOverAndOver();
        check.end();
    }

    private static void costZeroIsOfGivenValuesAlone() {
        ShortestCode x = Bench.of(4, 1);
        x.add(NOT, 0, 0);
        x.aim();
        check.due("15 an INSTRUCTION's VALUE", x.search(0, 30000, 0), -5);
        check.due("15 nothing is FOUND", x.take(), -3);
        x.result(0);
        x.aim();
        check.due("15 an INPUT", x.search(0, 30000, 0), 0);
    }

    private static void costZeroIsTheLeastSuchValue() {
        ShortestCode x = Bench.of(3, 2, 6, 5, 5, 5);
        x.result(5);
        x.aim();
        check.due("15 COST", x.search(0, 0, 0), 0);
        check.due("15 no INSTRUCTIONS", x.take(), 0);
        check.due("15 the least of 3, 4, 5", x.count(4), 3);
        x.result(1);
        x.aim();
        x.search(0, 0, 0);
        x.take();
        check.due("15 INPUT 1", x.count(4), 1);
    }

    private static void costZeroTakesNoTry() {
        ShortestCode x = Bench.of(4, 2);
        x.aim();
        check.due("15 no TRY", x.search(30, 0, 0), 0);
        check.told("15 no TRY", x, 0, 0, 1, 0);
    }

    private static void costZeroIsOneAlsoOfAll() {
        ShortestCode x = Bench.of(2, 1, 0, 0);
        check.due("15 ALL", x.search(9, 9, 1), 0);
        check.told("15 ALL", x, 0, 0, 1, 0);
    }

    private static void costZeroIsForAllAssignments() {
        ShortestCode x = Bench.of(4, 2);
        x.aim();
        x.target(255, 14);
        check.due("15 not for the last", x.search(0, 0, 0), -5);
        x.target(255, 15);
        check.due("15 for the last, too", x.search(0, 0, 0), 0);
        x.target(0, 1);
        check.due("15 not for the first", x.search(0, 0, 0), -5);
    }

    private static void costZeroAlone() {
        ShortestCode x = Bench.of(4, 1);
        Bench.aimAt(x, NOT, 0, 0);
        check.due("15 COST 0 at most", x.search(0, 30000, 1), -5);
        check.told("15 COST 0 at most", x, 0, 0, 0, -5);
    }

    /** A + 1 is NEG of NOT, and nothing cheaper. */
    private static ShortestCode plusOne() {
        ShortestCode x = Bench.of(4, 1);
        x.add(NOT, 0, 0);
        x.add(NEG, 1, 0);
        x.aim();
        x.drop();
        x.drop();
        return x;
    }

    private static void costJustEnough() {
        ShortestCode x = plusOne();
        check.due("15 one too few", x.search(1, 30000, 0), -5);
        check.due("15 just enough", x.search(2, 30000, 0), 2);
        check.due("15 more than enough", x.search(30, 30000, 0), 2);
    }

    /** 11 a takes five sums, no fewer: 2 a, 3 a, 4 a, 7 a, 11 a are the first. */
    private static void costThirty() {
        ShortestCode x = Bench.of(4, 1);
        for (int s = 0; s < 16; s++) {
            x.target(s, 11 * s % 16);
        }
        Bench.only(x, 5, 6);
        check.due("15 COST 29", x.search(29, 30000, 0), -5);
        check.due("15 COST 30", x.search(30, 30000, 0), 30);
        check.due("15 rounds", x.told(1), 30);
        check.due("15 five", x.take(), 5);
        check.program("15 five", x, 5, 5, 0, 0, 5, 0, 1, 5, 0, 2, 5, 2, 3, 5, 3, 4);
        check.due("15 its COST", x.count(5), 30);
    }

    private static void roundsUpToTheCost() {
        ShortestCode x = Bench.of(4, 1);
        Bench.only(x, NOT, 1);
        Bench.aimNowhere(x);
        for (int cost = 0; cost <= 30; cost++) {
            check.due("15 NOT alone", x.search(cost, 30000, 0), -5);
            // Round 1 has NOT 0; each later one NOT 0 and, behind it, NOT 0 and NOT 1.
            check.told("15 NOT alone", x, cost == 0 ? 0 : 3 * cost - 2, cost, 0, -5);
        }
    }

    private static void roundsUpToTheFound() {
        ShortestCode x = plusOne();
        Bench.only(x, NOT, 4, NEG, 3);
        check.due("15 FOUND", x.search(30, 30000, 0), 7);
        check.due("15 rounds", x.told(1), 7);
        check.due("15 one", x.told(2), 1);
    }

    private static void dearerThanTheTotal() {
        ShortestCode x = Bench.of(4, 1);
        Bench.aimAt(x, NOT, 0, 0);
        Bench.only(x, NOT, 9);
        check.due("15 8 for one of 9", x.search(8, 30000, 0), -5);
        check.told("15 8 for one of 9", x, 0, 8, 0, -5);
        check.due("15 9 for one of 9", x.search(9, 30000, 0), 9);
        check.told("15 9 for one of 9", x, 1, 9, 1, 9);
    }

    private static void dearerThanWhatIsLeft() {
        ShortestCode x = Bench.of(4, 1);
        Bench.only(x, NOT, 2);
        Bench.aimNowhere(x);
        // Rounds 2 and 3: NOT 0 alone, 1 being left over in round 3.
        x.search(3, 30000, 0);
        check.told("15 1 is left", x, 2, 3, 0, -5);
        // Round 4: NOT 0 and, behind it, NOT 0 and NOT 1.
        x.search(4, 30000, 0);
        check.told("15 2 are left", x, 5, 4, 0, -5);
        Bench.only(x, NOT, 2, NEG, 1);
        x.search(1, 30000, 0);
        check.told("15 round 1: NEG 0", x, 1, 1, 0, -5);
        x.search(2, 30000, 0);
        check.told("15 round 2: NOT 0; NEG 0 with NEG 0, NEG 1 behind it", x, 1 + 4, 2, 0, -5);
        // Round 3: NOT 0 with NEG 0, NEG 1 behind it; NEG 0 with NOT 0, NOT 1 behind it, and with NEG 0,
        // NEG 1, which make nothing new, so that the 1 that is left is of no use.
        x.search(3, 30000, 0);
        check.told("15 round 3", x, 1 + 4 + 3 + 5, 3, 0, -5);
    }

    private static void barredIsNotLookedAt() {
        ShortestCode x = Bench.of(4, 1);
        Bench.aimAt(x, NOT, 0, 0);
        x.cost(NOT, 0);
        check.due("15 NOT is BARRED", x.search(1, 30000, 0), -5);
        check.told("15 NOT is BARRED", x, 12, 1, 0, -5);
        x.cost(NOT, 1);
        check.due("15 NOT is not", x.search(1, 30000, 0), 1);
    }

    private static void allBarred() {
        ShortestCode x = Bench.of(4, 1);
        Bench.only(x);
        Bench.aimNowhere(x);
        check.due("15 all BARRED, no TRY is made", x.search(30, 0, 1), -5);
        check.told("15 all BARRED", x, 0, 30, 0, -5);
    }

    private static void oneOperandHasNoB() {
        for (int operation = NOT; operation <= NEG; operation++) {
            ShortestCode x = Bench.of(4, 2, 1, 2, 3, 4);
            Bench.only(x, operation, 1);
            x.target(9, 9);
            x.search(1, 30000, 1);
            check.told("15 six VALUES, operation " + operation, x, 6, 1, 0, -5);
        }
    }

    private static void aAboveBIsNotLookedAt() {
        int[] tries = {2, 2, 3, 3, 3, 3, 4, 3, 4, 4, 4, 4, 3};
        for (int operation = 2; operation < 13; operation++) {
            ShortestCode x = Bench.of(4, 2);
            Bench.only(x, operation, 1);
            x.target(9, 9);
            x.target(200, 3);
            x.search(1, 30000, 1);
            check.told("15 two VALUES, operation " + operation, x, tries[operation], 1, 0, -5);
        }
    }

    private static void likeOperandsAreLookedAt() {
        for (int operation = 2; operation < 13; operation++) {
            ShortestCode x = Bench.of(4, 1);
            Bench.only(x, operation, 1);
            Bench.aimNowhere(x);
            x.search(1, 30000, 1);
            check.told("15 one VALUE, operation " + operation, x, 1, 1, 0, -5);
        }
    }

    /** VALUES that are made in a TRY wrap around as those of THE PROGRAM do. */
    private static void tryWrapsAroundAsWordsDo() {
        for (int w = 2; w <= 4; w++) {
            for (int operation = 5; operation <= 10; operation++) {
                ShortestCode x = Bench.of(w, 2);
                Bench.only(x, operation, 1);
                Bench.aimAt(x, operation, 0, 1);
                check.due("15 W " + w + ", operation " + operation, x.search(1, 30000, 0), 1);
                check.told("15 W " + w + ", operation " + operation, x, 2, 1, 1, 1);
                x.take();
                check.program("15 W " + w + ", operation " + operation, x, 2, operation, 0, 1);
            }
        }
    }

    private static void byOperationThenAThenB() {
        ShortestCode x = Bench.of(4, 2);
        Bench.only(x, 6, 1, 11, 1);
        // - of 0, 0; 0, 1; 1, 0; 1, 1; then less of 0, 0; 0, 1; 1, 0.
        Bench.aimAt(x, 6, 0, 1);
        x.search(1, 30000, 0);
        check.told("15 the second", x, 2, 1, 1, 1);
        Bench.aimAt(x, 6, 1, 0);
        x.search(1, 30000, 0);
        check.told("15 the third", x, 3, 1, 1, 1);
        Bench.aimAt(x, 11, 0, 1);
        x.search(1, 30000, 0);
        check.told("15 the sixth", x, 6, 1, 1, 1);
        Bench.aimAt(x, 11, 1, 0);
        x.search(1, 30000, 0);
        check.told("15 the seventh", x, 7, 1, 1, 1);
    }

    private static void notBehindAnInputAgain() {
        ShortestCode x = Bench.of(1, 2);
        Bench.only(x, 8, 1);
        x.target(0, 1);
        // One bit is never moved, so each of the four is INPUT 0 or 1 again.
        x.search(2, 30000, 1);
        check.told("15 INPUTS again", x, 8, 2, 0, -5);
    }

    private static void notBehindAConstantAgain() {
        ShortestCode x = Bench.of(4, 1, 0);
        Bench.only(x, 4, 1);
        x.target(3, 1);
        // XOR of 0, 0 and 1, 1 is the CONSTANT, that of 0, 1 the INPUT.
        x.search(2, 30000, 1);
        check.told("15 the CONSTANT again", x, 6, 2, 0, -5);
        x = Bench.of(4, 1);
        Bench.only(x, 4, 1);
        x.target(3, 1);
        // Without it there is something behind XOR of 0, 0: three more.
        x.search(2, 30000, 1);
        check.told("15 no CONSTANT", x, 1 + 1 + 3, 2, 0, -5);
    }

    private static void notBehindAnInstructionAgain() {
        ShortestCode x = Bench.of(4, 1);
        Bench.only(x, NEG, 1);
        Bench.aimNowhere(x);
        // Round 3: NEG 0; behind it NEG 0 is the same again and NEG 1 the INPUT.
        x.search(3, 30000, 1);
        check.told("15 an INSTRUCTION again", x, 1 + 3 + 3, 3, 0, -5);
    }

    /** A value that differs from one before it for the last ASSIGNMENT alone is new. */
    private static void behindWhatIsNewForOneAssignment() {
        ShortestCode x = Bench.of(1, 2, 0);
        Bench.only(x, 2, 1);
        x.target(0, 1);
        // AND of INPUTS 0, 1 is CONSTANT 0 but for the last; the other five make nothing new.
        x.search(2, 30000, 1);
        check.told("15 new for the last", x, 6 + 6 + 10, 2, 0, -5);
    }

    /**
     * No search of 30000 TRIES comes so far: all rounds before are gone through first, and no choice of
     * words, CONSTANTS and COSTS is known that leaves so few TRIES to them. So the limit of TRIES is
     * passed by here, by the names of what is inside the class.
     *
     * <p>NOT and NEG lead round a ring of 32 VALUES, a row of p INSTRUCTIONS being p + 1 neighbours: there are
     * 2 to the p of them, with 2 (p + 1) TRIES behind each.
     */
    private static void noThirteenthPlace() throws ReflectiveOperationException {
        ShortestCode x = Bench.of(4, 1);
        Bench.only(x, NOT, 1, NEG, 1);
        Bench.aimNowhere(x);
        x.search(0, 0, 0);
        Field field = ShortestCode.class.getDeclaredField("hunt");
        field.setAccessible(true);
        Object hunt = field.get(x);
        Method run = hunt.getClass().getDeclaredMethod("run", int.class, int.class, boolean.class);
        run.setAccessible(true);
        int due = 0;
        for (int total = 1; total <= 14; total++) {
            for (int place = 0; place < total && place < 12; place++) {
                due += (1 << place) * 2 * (place + 1);
            }
            run.invoke(hunt, total, 10_000_000, true);
            check.told("15 rows of twelve, total " + total, x, due, total, 0, -5);
        }
    }

    private static void theProgramIsNotLookedAt() {
        ShortestCode x = Bench.of(4, 1);
        x.add(NEG, 0, 0);
        x.add(NOT, 1, 0);
        x.result(1);
        Bench.aimAt(x, NOT, 0, 0);
        check.due("15 FOUND", x.search(1, 30000, 1), 1);
        check.told("15 the thirteen of INPUT 0", x, 13, 1, 1, 1);
        check.program("15 it stays", x, 0, NEG, 0, 0, NOT, 1, 0);
        check.due("15 TARGET stays", x.target(3, 0), 12);
    }

    private static void spentByOneTry() {
        ShortestCode x = Bench.of(4, 1);
        Bench.only(x, NOT, 1);
        Bench.aimNowhere(x);
        check.due("15 4 TRIES for 4", x.search(2, 4, 0), -5);
        check.told("15 4 TRIES for 4", x, 4, 2, 0, -5);
        check.due("15 3 TRIES for 4", x.search(2, 3, 0), -6);
        check.told("15 3 TRIES for 4", x, 3, 2, 0, -6);
        check.due("15 2 TRIES for 4", x.search(2, 2, 1), -6);
        check.told("15 2 TRIES for 4", x, 2, 2, 0, -6);
    }

    private static void spentWithNoTry() {
        ShortestCode x = Bench.of(4, 1);
        Bench.aimNowhere(x);
        check.due("15 none may be made", x.search(1, 0, 0), -6);
        check.told("15 none may be made", x, 0, 1, 0, -6);
        check.due("15 none would be made", x.search(0, 0, 0), -5);
        Bench.only(x, NOT, 3);
        check.due("15 none would be made", x.search(2, 0, 0), -5);
        check.told("15 none would be made", x, 0, 2, 0, -5);
        check.due("15 one would", x.search(3, 0, 0), -6);
        check.told("15 one would", x, 0, 3, 0, -6);
    }

    private static void spentInTheRoundThatBegins() {
        ShortestCode x = Bench.of(4, 1);
        Bench.only(x, NOT, 1);
        Bench.aimNowhere(x);
        check.due("15 at the first of round 2", x.search(30, 1, 0), -6);
        check.told("15 at the first of round 2", x, 1, 2, 0, -6);
        check.due("15 at the first of round 3", x.search(30, 4, 0), -6);
        check.told("15 at the first of round 3", x, 4, 3, 0, -6);
    }

    private static void foundByTheLastTry() {
        ShortestCode x = Bench.of(4, 1);
        Bench.aimAt(x, 12, 0, 0);
        check.due("15 the 13th of 13", x.search(1, 13, 0), 1);
        check.told("15 the 13th of 13", x, 13, 1, 1, 1);
        check.due("15 the 13th of 12", x.search(1, 12, 0), -6);
        check.told("15 the 13th of 12", x, 12, 1, 0, -6);
        Bench.aimAt(x, NOT, 0, 0);
        check.due("15 the first of 1", x.search(30, 1, 0), 1);
        check.told("15 the first of 1", x, 1, 1, 1, 1);
    }

    private static void allJustEnough() {
        ShortestCode x = Bench.of(4, 1);
        Bench.aimAt(x, 12, 0, 0);
        check.due("15 the last of the round", x.search(30, 13, 1), 1);
        check.told("15 the last of the round", x, 13, 1, 1, 1);
        Bench.aimAt(x, NOT, 0, 0);
        check.due("15 the first of the round", x.search(30, 13, 1), 1);
        check.told("15 the first of the round", x, 13, 1, 1, 1);
        check.due("15 a TRY more behind it", x.search(30, 12, 1), -6);
        check.told("15 a TRY more behind it", x, 12, 1, 1, -6);
    }

    /** A - A is 0, and so are XOR and less of A, A; it is made in other ways in round 2. */
    private static ShortestCode aimedAtZero() {
        ShortestCode x = Bench.of(4, 1);
        Bench.aimAt(x, 4, 0, 0);
        return x;
    }

    private static void allInItsRoundAlone() {
        ShortestCode x = aimedAtZero();
        check.due("15 ALL", x.search(30, 30000, 1), 1);
        check.told("15 ALL", x, 13, 1, 3, 1);
        check.due("15 the first alone", x.search(30, 30000, 0), 1);
        check.told("15 the first alone", x, 5, 1, 1, 1);
    }

    private static void firstOfAllCounts() {
        ShortestCode x = aimedAtZero();
        x.search(30, 30000, 1);
        check.due("15 one INSTRUCTION", x.take(), 1);
        check.program("15 XOR", x, 1, 4, 0, 0);
        x.cost(4, 2);
        x.search(30, 30000, 1);
        check.due("15 two in round 1", x.told(2), 2);
        x.take();
        check.program("15 -", x, 1, 6, 0, 0);
    }

    /** FOUND by TRIES 5, 7 and 12 of 13. */
    private static void spentFoundSoFar() {
        int[] due = {0, 0, 0, 0, 0, 1, 1, 2, 2, 2, 2, 2, 3, 3};
        for (int tries = 0; tries <= 13; tries++) {
            ShortestCode x = aimedAtZero();
            int answer = tries == 13 ? 1 : -6;
            check.due("15 ALL with " + tries, x.search(3, tries, 1), answer);
            check.told("16 ALL with " + tries, x, tries, 1, due[tries], answer);
            check.due("17 ALL with " + tries, x.take(), tries == 13 ? 1 : -3);
        }
    }

    /** XOR of INPUT 0 with itself was FOUND; TARGET is another now. */
    private static ShortestCode foundZero() {
        ShortestCode x = aimedAtZero();
        x.search(1, 5, 0);
        Bench.aimNowhere(x);
        return x;
    }

    private static void foundStaysWhenNoneIs() {
        ShortestCode x = foundZero();
        check.due("15 none", x.search(1, 30000, 0), -5);
        check.due("17 what was FOUND before", x.take(), 1);
        check.program("17 what was FOUND before", x, 1, 4, 0, 0);
    }

    private static void foundStaysWhenSpent() {
        ShortestCode x = foundZero();
        Bench.aimAt(x, NOT, 0, 0);
        check.due("15 SPENT, FOUND so far", x.search(1, 7, 1), -6);
        check.due("16 FOUND so far", x.told(2), 1);
        check.due("17 what was FOUND before", x.take(), 1);
        check.program("17 what was FOUND before", x, 1, 4, 0, 0);
    }

    private static void foundStaysWhenOutside() {
        ShortestCode x = foundZero();
        Bench.aimAt(x, NOT, 0, 0);
        check.due("15 outside", x.search(1, 30001, 0), -2);
        check.told("16 of the one before", x, 5, 1, 1, 1);
        check.due("17 what was FOUND before", x.take(), 1);
        check.program("17 what was FOUND before", x, 1, 4, 0, 0);
    }

    private static void toldBeforeAny() {
        ShortestCode x = new ShortestCode();
        check.due("16 its answer", x.told(3), -3);
        x.search(-1, 0, 0);
        check.due("16 refused by -2 is none", x.told(3), -3);
        x.search(0, 0, 0);
        check.due("16 the first", x.told(3), -5);
    }

    private static void toldOfTheLatest() {
        ShortestCode x = aimedAtZero();
        x.search(30, 30000, 1);
        check.told("16 FOUND", x, 13, 1, 3, 1);
        Bench.aimNowhere(x);
        x.search(1, 4, 0);
        check.told("16 SPENT", x, 4, 1, 0, -6);
        x.search(0, 0, 0);
        check.told("16 none", x, 0, 0, 0, -5);
        x.result(0);
        x.aim();
        x.search(5, 5, 0);
        check.told("16 COST 0", x, 0, 0, 1, 0);
    }

    private static void takeOfNoInstructions() {
        ShortestCode x = Bench.of(2, 2, 1, 2);
        x.result(3);
        x.aim();
        x.search(0, 0, 0);
        x.add(5, 0, 1);
        x.add(5, 0, 1);
        check.due("17 none", x.take(), 0);
        check.program("17 none", x, 3);
        check.due("17 the VALUES are gone", x.value(4, 0), -1);
    }

    private static void takeInsteadOfTwelve() {
        ShortestCode x = plusOne();
        x.search(2, 30000, 0);
        for (int i = 0; i < 12; i++) {
            x.add(5, i, 0);
        }
        check.due("17 two", x.take(), 2);
        check.program("17 two", x, 2, NOT, 0, 0, NEG, 1, 0);
        check.due("17 they are run", x.value(2, 15), 0);
        check.due("17 no VALUE more", x.value(3, 0), -1);
        check.due("17 room again", x.add(5, 2, 2), 3);
    }

    private static void takeTheLatest() {
        ShortestCode x = aimedAtZero();
        x.search(1, 30000, 0);
        Bench.aimAt(x, NEG, 0, 0);
        x.search(1, 30000, 0);
        check.due("17 the latest", x.take(), 1);
        check.program("17 the latest", x, 1, NEG, 0, 0);
    }

    private static void takeOverAndOver() {
        ShortestCode x = plusOne();
        x.search(2, 30000, 0);
        for (int i = 0; i < 3; i++) {
            check.due("17 again", x.take(), 2);
            check.program("17 again", x, 2, NOT, 0, 0, NEG, 1, 0);
            x.cost(NOT, 0);
            x.target(0, 0);
            x.result(1);
            x.clean();
        }
    }
}

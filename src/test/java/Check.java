/** Counts what is not as it is due, and ends a test accordingly. */
final class Check {
    private final String test;
    private int made = 0;
    private int wrong = 0;

    Check(String test) {
        this.test = test;
    }

    void due(String call, int got, int want) {
        made++;
        if (got != want) {
            wrong++;
            System.out.println(test + ": " + call + " answered " + got + ", due is " + want);
        }
    }

    void holds(String what, boolean so) {
        made++;
        if (!so) {
            wrong++;
            System.out.println(test + ": not so: " + what);
        }
    }

    int wrongSoFar() {
        return wrong;
    }

    /** THE PROGRAM: RESULT, and three numbers for each INSTRUCTION. */
    void program(String when, ShortestCode x, int result, int... instructions) {
        due(when + ": count(3)", x.count(3), instructions.length / 3);
        due(when + ": count(4)", x.count(4), result);
        for (int i = 0; i < instructions.length; i++) {
            due(when + ": instruction(" + i / 3 + ", " + i % 3 + ")", x.instruction(i / 3, i % 3), instructions[i]);
        }
    }

    /** The four answers of told(). */
    void told(String when, ShortestCode x, int tries, int rounds, int found, int answer) {
        due(when + ": told(0)", x.told(0), tries);
        due(when + ": told(1)", x.told(1), rounds);
        due(when + ": told(2)", x.told(2), found);
        due(when + ": told(3)", x.told(3), answer);
    }

    void end() {
        System.out.println(test + ": " + made + " checks, " + wrong + " wrong");
        if (wrong != 0 || made == 0) {
            System.exit(1);
        }
    }
}

/** Objects to begin a test with. */
final class Bench {
    private Bench() {
    }

    /** A new object with these words and constants. */
    static ShortestCode of(int w, int n, int... constants) {
        ShortestCode x = new ShortestCode();
        x.words(w, n);
        for (int c : constants) {
            x.constant(c);
        }
        return x;
    }

    /** All OPERATIONS are BARRED but these, told with their COSTS. */
    static void only(ShortestCode x, int... costs) {
        for (int operation = 0; operation < 13; operation++) {
            x.cost(operation, 0);
        }
        for (int i = 0; i < costs.length; i += 2) {
            x.cost(costs[i], costs[i + 1]);
        }
    }

    /** TARGET becomes what one INSTRUCTION makes; THE PROGRAM is empty again. */
    static void aimAt(ShortestCode x, int operation, int a, int b) {
        x.add(operation, a, b);
        x.aim();
        x.drop();
    }

    /** A TARGET that 0, 1 or 2 INSTRUCTIONS behind one INPUT of 4 bits do not make. */
    static void aimNowhere(ShortestCode x) {
        int[] odd = {3, 0, 0, 7, 1, 12, 0, 5, 0, 9, 2, 0, 14, 0, 0, 6};
        for (int s = 0; s < odd.length; s++) {
            x.target(s, odd[s]);
        }
    }
}

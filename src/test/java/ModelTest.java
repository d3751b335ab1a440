import java.util.Random;

/** Many runs of up to 512 calls, right ones and wrong ones, held against SlowBench; the seeds are fixed. */
public final class ModelTest {
    private static final Check check = new Check("ModelTest");
    private static final int[] ODD = {-1, -2, -3, 2, 4, 5, 12, 13, 16, 17, 18, 31, 256, 30001, Integer.MIN_VALUE, Integer.MAX_VALUE};

    private final Random random;
    private final ShortestCode fast = new ShortestCode();
    private final SlowBench slow = new SlowBench();
    private final StringBuilder history = new StringBuilder();
    private int calls = 0;

    private ModelTest(long seed) {
        random = new Random(seed);
    }

    public static void main(String[] args) {
        int runs = args.length > 0 ? Integer.parseInt(args[0]) : 1500;
        for (int seed = 0; seed < runs && check.wrongSoFar() == 0; seed++) {
            new ModelTest(seed).run();
        }
        check.end();
    }

    /** All is asked at the end, as it takes many calls. */
    private void run() {
        int before = random.nextInt(320);
        begin();
        while (calls < before && check.wrongSoFar() == 0) {
            step();
        }
        whole();
        if (check.wrongSoFar() > 0) {
            System.out.println(history);
        }
    }

    private void begin() {
        if (random.nextInt(3) == 0) {
            return;
        }
        int w = 1 + random.nextInt(4);
        both("words", w, 1 + random.nextInt(2), 0);
        for (int i = random.nextInt(6); i > 0; i--) {
            both("constant", random.nextInt(1 << w), 0, 0);
        }
    }

    private void step() {
        switch (random.nextInt(16)) {
            case 0:
                if (random.nextInt(3) == 0) {
                    both("words", odd(1 + random.nextInt(4)), odd(1 + random.nextInt(2)), 0);
                }
                break;
            case 1: both("constant", odd(random.nextInt(slow.call("count", 0, 0, 0) * 2)), 0, 0); break;
            case 2: both("cost", odd(random.nextInt(13)), odd(random.nextInt(4) * random.nextInt(4)), 0); break;
            case 3: both("target", odd(random.nextInt(16)), odd(random.nextInt(3)), 0); break;
            case 4: both("aim", 0, 0, 0); break;
            case 5: case 6: case 7: both("add", odd(random.nextInt(13)), odd(anyValue()), odd(anyValue())); break;
            case 8: both("drop", 0, 0, 0); break;
            case 9: both("result", odd(anyValue()), 0, 0); break;
            case 10: both("differ", odd(anyValue()), random.nextBoolean() ? -2 : odd(anyValue()), 0); break;
            case 11: both("clean", 0, 0, 0); break;
            case 12: both("take", 0, 0, 0); break;
            case 13: barSome(); break;
            default: searchNow(); break;
        }
    }

    private void searchNow() {
        if (random.nextInt(3) > 0) {
            both("aim", 0, 0, 0);
        }
        int tries = random.nextInt(8) == 0 ? 30000 : random.nextInt(1 << random.nextInt(14));
        both("search", odd(random.nextInt(random.nextBoolean() ? 4 : 31)), odd(tries), odd(random.nextInt(2)));
        for (int what = 0; what < 4; what++) {
            both("told", what, 0, 0);
        }
        if (random.nextBoolean()) {
            both("take", 0, 0, 0);
        }
    }

    /** With few OPERATIONS rows get long before TRIES are SPENT. */
    private void barSome() {
        for (int operation = 0; operation < 13; operation++) {
            both("cost", operation, random.nextInt(4) > 0 ? 0 : 1 + random.nextInt(3), 0);
        }
    }

    private int anyValue() {
        int inputs = slow.call("count", 1, 0, 0);
        return random.nextInt(inputs + slow.call("count", 2, 0, 0) + slow.call("count", 3, 0, 0));
    }

    private int odd(int usual) {
        return random.nextInt(25) == 0 ? ODD[random.nextInt(ODD.length)] : usual;
    }

    private void whole() {
        for (int what = -1; what < 7; what++) {
            both("count", what, 0, 0);
        }
        for (int k = -1; k < 13; k++) {
            for (int what = -1; what < 4; what++) {
                both("instruction", k, what, 0);
            }
        }
        for (int v = -2; v < 19; v++) {
            both("value", v, random.nextInt(256), 0);
            both("value", v, random.nextInt(16), 0);
            both("differ", v, -2, 0);
        }
        for (int what = -1; what < 5; what++) {
            both("told", what, 0, 0);
        }
        check.holds("no more than 512 calls, not " + calls, calls <= 512);
    }

    private void both(String name, int x, int y, int z) {
        calls++;
        String call = name + "(" + x + ", " + y + ", " + z + ")";
        int got = call(name, x, y, z);
        if (!name.equals("count") && !name.equals("instruction") && !name.equals("value")) {
            history.append(call).append(" = ").append(got).append('\n');
        }
        check.due(call, got, slow.call(name, x, y, z));
    }

    private int call(String name, int x, int y, int z) {
        switch (name) {
            case "words": return fast.words(x, y);
            case "constant": return fast.constant(x);
            case "cost": return fast.cost(x, y);
            case "target": return fast.target(x, y);
            case "aim": return fast.aim();
            case "add": return fast.add(x, y, z);
            case "drop": return fast.drop();
            case "result": return fast.result(x);
            case "instruction": return fast.instruction(x, y);
            case "count": return fast.count(x);
            case "value": return fast.value(x, y);
            case "differ": return fast.differ(x, y);
            case "clean": return fast.clean();
            case "search": return fast.search(x, y, z);
            case "told": return fast.told(x);
            case "take": return fast.take();
            default: throw new IllegalStateException(name);
        }
    }
}

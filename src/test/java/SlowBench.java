import java.util.ArrayList;
import java.util.Arrays;
import java.util.List;

/**
 * The document once more, written another way and without care for time or room: what ModelTest holds
 * ShortestCode against. VALUES are run anew from the program at each call.
 */
final class SlowBench {
    private int w = 4;
    private int n = 1;
    private List<Integer> constants = new ArrayList<>();
    private List<int[]> program = new ArrayList<>();
    private int result = 0;
    private final int[] costs = new int[13];
    private int[] target = new int[16];
    private List<int[]> found = null;
    private int foundResult = 0;
    private final int[] told = {0, 0, 0, -3};

    /** What is thrown where a search ends before its round does. */
    private static final class Stop extends RuntimeException {
        private static final long serialVersionUID = 1L;
        private final boolean spent;

        Stop(boolean spent) {
            super(null, null, false, false);
            this.spent = spent;
        }
    }

    SlowBench() {
        Arrays.fill(costs, 1);
    }

    int call(String name, int x, int y, int z) {
        switch (name) {
            case "words": return words(x, y);
            case "constant": return constant(x);
            case "cost": return cost(x, y);
            case "target": return target(x, y);
            case "aim": return aim();
            case "add": return add(x, y, z);
            case "drop": return drop();
            case "result": return result(x);
            case "instruction": return instruction(x, y);
            case "count": return count(x);
            case "value": return value(x, y);
            case "differ": return differ(x, y);
            case "clean": return clean();
            case "search": return search(x, y, z);
            case "told": return x < 0 || x > 3 ? -2 : told[x];
            case "take": return take();
            default: throw new IllegalStateException(name);
        }
    }

    private int assignments() {
        return (int) Math.pow(2, w * n);
    }

    private int words() {
        return (int) Math.pow(2, w);
    }

    private int words(int newW, int newN) {
        if (!(newW >= 1 && newW <= 4 && (newN == 1 || newN == 2))) return -2;
        w = newW;
        n = newN;
        constants = new ArrayList<>();
        program = new ArrayList<>();
        result = 0;
        target = new int[assignments()];
        found = null;
        return assignments();
    }

    private int constant(int c) {
        if (c < 0 || c >= words()) return -2;
        if (!program.isEmpty()) return -3;
        if (constants.size() == 4) return -4;
        constants.add(c);
        found = null;
        return n + constants.size() - 1;
    }

    private int cost(int operation, int c) {
        if (operation < 0 || operation > 12) return -1;
        if (c < 0 || c > 9) return -2;
        int was = costs[operation];
        costs[operation] = c;
        return was;
    }

    private int target(int assignment, int v) {
        if (assignment < 0 || assignment >= assignments()) return -1;
        if (v < 0 || v >= words()) return -2;
        int was = target[assignment];
        target[assignment] = v;
        return was;
    }

    private int aim() {
        int[] now = table(program).get(result);
        int changed = 0;
        for (int s = 0; s < now.length; s++) changed += now[s] == target[s] ? 0 : 1;
        target = now.clone();
        return changed;
    }

    private int size() {
        return n + constants.size() + program.size();
    }

    private boolean there(int value) {
        return value >= 0 && value < size();
    }

    private int add(int operation, int a, int b) {
        if (operation < 0 || operation > 12 || !there(a) || !there(b)) return -1;
        if (program.size() == 12) return -4;
        program.add(new int[] {operation, a, operation < 2 ? 0 : b});
        result = size() - 1;
        return result;
    }

    private int drop() {
        if (program.isEmpty()) return -3;
        program.remove(program.size() - 1);
        if (result == size()) result = 0;
        return program.size();
    }

    private int result(int value) {
        if (!there(value)) return -1;
        int was = result;
        result = value;
        return was;
    }

    private int instruction(int k, int what) {
        if (k < 0 || k >= program.size()) return -1;
        if (what < 0 || what > 2) return -2;
        return program.get(k)[what];
    }

    private int count(int what) {
        if (what < 0 || what > 5) return -2;
        int cost = 0;
        for (int[] i : program) cost += costs[i[0]];
        return new int[] {w, n, constants.size(), program.size(), result, cost}[what];
    }

    private int value(int value, int assignment) {
        if (!there(value) || assignment < 0 || assignment >= assignments()) return -1;
        return table(program).get(value)[assignment];
    }

    private int differ(int one, int other) {
        if (!there(one) || (other != -2 && !there(other))) return -1;
        int at = Arrays.mismatch(table(program).get(one), other == -2 ? target : table(program).get(other));
        return at == -1 ? -5 : at;
    }

    private int clean() {
        int gone = 0;
        while (cleanOnce()) gone++;
        return gone;
    }

    private boolean cleanOnce() {
        List<int[]> table = table(program);
        int given = n + constants.size();
        for (int v = given; v < size(); v++) {
            for (int u = 0; u < v; u++) {
                if (Arrays.equals(table.get(u), table.get(v))) {
                    goes(v, u);
                    return true;
                }
            }
        }
        for (int v = size() - 1; v >= given; v--) {
            if (!hangs(result, v)) {
                goes(v, -1000);
                return true;
            }
        }
        return false;
    }

    private boolean hangs(int value, int on) {
        int given = n + constants.size();
        if (value == on) return true;
        if (value < given) return false;
        int[] i = program.get(value - given);
        return hangs(i[1], on) || (i[0] > 1 && hangs(i[2], on));
    }

    private void goes(int v, int instead) {
        program.remove(v - n - constants.size());
        for (int[] i : program) {
            for (int o = 1; o <= 2; o++) i[o] = i[o] == v ? instead : i[o] > v ? i[o] - 1 : i[o];
        }
        result = result == v ? instead : result > v ? result - 1 : result;
    }

    private int search(int cost, int tries, int all) {
        if (cost < 0 || cost > 30 || tries < 0 || tries > 30000 || all < 0 || all > 1) return -2;
        told[0] = 0;
        told[1] = 0;
        told[2] = 0;
        told[3] = hunt(cost, tries, all == 1);
        return told[3];
    }

    private List<int[]> hit;

    private int hunt(int cost, int tries, boolean all) {
        List<int[]> given = table(new ArrayList<>());
        for (int v = 0; v < given.size(); v++) {
            if (Arrays.equals(given.get(v), target)) {
                told[2] = 1;
                found = new ArrayList<>();
                foundResult = v;
                return 0;
            }
        }
        for (int total = 1; total <= cost; total++) {
            hit = null;
            told[1]++;
            try {
                round(new ArrayList<>(given), new ArrayList<>(), total, tries, all);
            } catch (Stop stop) {
                if (stop.spent) return -6;
            }
            if (hit != null) {
                found = hit;
                foundResult = given.size() + hit.size() - 1;
                return total;
            }
        }
        return -5;
    }

    private void round(List<int[]> values, List<int[]> row, int left, int tries, boolean all) {
        if (row.size() == 12) return;
        for (int operation = 0; operation < 13; operation++) {
            for (int a = 0; a < values.size(); a++) {
                for (int b = 0; b < values.size(); b++) {
                    if (costs[operation] == 0 || costs[operation] > left) continue;
                    if (operation < 2 && b != 0) continue;
                    if (List.of(2, 3, 4, 5, 7, 12).contains(operation) && a > b) continue;
                    if (told[0] == tries) throw new Stop(true);
                    told[0]++;
                    row.add(new int[] {operation, a, b});
                    int[] made = made(operation, values.get(a), values.get(b));
                    boolean fresh = true;
                    for (int[] v : values) fresh &= !Arrays.equals(v, made);
                    if (left == costs[operation]) {
                        if (Arrays.equals(made, target)) {
                            told[2]++;
                            if (hit == null) hit = new ArrayList<>(row);
                            if (!all) throw new Stop(false);
                        }
                    } else if (fresh) {
                        values.add(made);
                        round(values, row, left - costs[operation], tries, all);
                        values.remove(values.size() - 1);
                    }
                    row.remove(row.size() - 1);
                }
            }
        }
    }

    private int take() {
        if (found == null) return -3;
        program = new ArrayList<>();
        for (int[] i : found) program.add(i.clone());
        result = foundResult;
        return program.size();
    }

    private List<int[]> table(List<int[]> rows) {
        List<int[]> table = new ArrayList<>();
        for (int i = 0; i < n; i++) {
            int[] input = new int[assignments()];
            for (int s = 0; s < input.length; s++) input[s] = s / (int) Math.pow(words(), i) % words();
            table.add(input);
        }
        for (int c : constants) {
            int[] row = new int[assignments()];
            Arrays.fill(row, c);
            table.add(row);
        }
        for (int[] i : rows) table.add(made(i[0], table.get(i[1]), table.get(i[2])));
        return table;
    }

    private int[] made(int operation, int[] a, int[] b) {
        int[] made = new int[a.length];
        for (int s = 0; s < made.length; s++) made[s] = Math.floorMod(word(operation, a[s], b[s]), words());
        return made;
    }

    private int word(int operation, int a, int b) {
        switch (operation) {
            case 0: return words() - 1 - a;
            case 1: return -a;
            case 2: return (a + b - (a ^ b)) / 2;
            case 3: return (a + b + (a ^ b)) / 2;
            case 4: return (a | b) - (a & b);
            case 5: return a + b;
            case 6: return a - b;
            case 7: return a * b;
            case 8: return a * (int) Math.pow(2, b % w);
            case 9: return a / (int) Math.pow(2, b % w);
            case 10:
                for (int i = 0; i < b % w; i++) a = a / 2 + (a >= words() / 2 ? words() / 2 : 0);
                return a;
            case 11: return Integer.compare(a, b) < 0 ? 1 : 0;
            default: return Integer.compare(a, b) == 0 ? 1 : 0;
        }
    }
}

import java.util.Random;

/** Promises 1 to 14 in long runs: the class must answer as the model does. The runs are the same each time. */
public final class ModelTest {
    private static final int RUNS = 3000;
    private static final int CALLS = 512;
    private static final int[] CELLS = {20, 30, 45, 60, 100, 200, 500, 1500, 5000, 19, 5001};
    /** How often each of the 13 methods is called, for different courses of a run. */
    private static final int[][] WEIGHTS = {
        {3, 6, 12, 6, 6, 8, 4, 4, 3, 2, 4, 1, 3},
        {1, 4, 20, 4, 10, 2, 1, 2, 1, 1, 2, 1, 1},
        {2, 8, 8, 4, 2, 16, 6, 2, 2, 2, 3, 1, 1},
        {1, 10, 12, 3, 4, 3, 1, 12, 6, 4, 3, 1, 1},
        {1, 8, 10, 10, 8, 4, 2, 3, 2, 4, 3, 1, 1},
    };

    private final Random random;
    private final VisibleHeap heap;
    private final Model model;
    private final int[] weights;
    private final int wrongPercent;
    private String call = "";

    private ModelTest(long seed) {
        random = new Random(seed);
        int cells = CELLS[random.nextInt(CELLS.length)];
        heap = new VisibleHeap(cells);
        model = new Model(cells);
        weights = WEIGHTS[random.nextInt(WEIGHTS.length)];
        wrongPercent = random.nextInt(3);
    }

    public static void main(String[] args) {
        Due due = new Due("promises 1 to 14, runs beside the model");
        for (int seed = 0; seed < RUNS; seed++) {
            new ModelTest(seed).run(due, seed);
        }
        due.end();
    }

    private void run(Due due, int seed) {
        for (int i = 0; i < CALLS; i++) {
            int[] answers = random.nextInt(4) == 0 ? watch() : callOne();
            if (answers[0] != answers[1]) {
                due.is("run " + seed + ", call " + i + ": " + call, answers[0], answers[1]);
                return;
            }
        }
    }

    private int reg() {
        if (random.nextInt(100) < wrongPercent) {
            return random.nextInt(5) == 0 ? random.nextInt() : random.nextBoolean() ? -1 : 8;
        }
        return random.nextInt(8);
    }

    private int upTo(int most) {
        if (random.nextInt(100) < wrongPercent) {
            return random.nextInt(5) == 0 ? random.nextInt() : random.nextBoolean() ? -1 : most + 1;
        }
        return random.nextInt(most + 1);
    }

    private int length() {
        return random.nextInt(12) == 0 ? upTo(100) : upTo(5);
    }

    private int[] both(String made, int got, int want) {
        call = made;
        return new int[] {got, want};
    }

    private int[] both(String made, boolean got, boolean want) {
        return both(made, got ? 1 : 0, want ? 1 : 0);
    }

    private int[] watch() {
        int a = reg();
        int b = random.nextBoolean() ? upTo(2) : upTo(5);
        if (random.nextBoolean()) {
            return both("look(" + a + ", " + b + ")", heap.look(a, b), model.look(a, b));
        }
        return both("count(" + b + ")", heap.count(b), model.count(b));
    }

    private int method() {
        int sum = 0;
        for (int weight : weights) {
            sum += weight;
        }
        int at = random.nextInt(sum);
        int method = 0;
        while (at >= weights[method]) {
            at -= weights[method];
            method++;
        }
        return method;
    }

    private int[] callOne() {
        int a = reg();
        int b = reg();
        int c = reg();
        int k = random.nextInt(3) == 0 ? length() : upTo(1);
        switch (method()) {
            case 0:
                int v = random.nextInt(4) - 1;
                return both("number(" + a + ", " + v + ")", heap.number(a, v), model.number(a, v));
            case 1:
                int from = random.nextInt(3) > 0 ? -1 : b;
                return both("copy(" + a + ", " + from + ")", heap.copy(a, from), model.copy(a, from));
            case 2:
                return make(a, b, c);
            case 3:
                return both("get(" + a + ", " + b + ", " + k + ")", heap.get(a, b, k), model.get(a, b, k));
            case 4:
                return both("set(" + a + ", " + k + ", " + b + ")", heap.set(a, k, b), model.set(a, k, b));
            case 5:
                return put(a, b, c);
            case 6:
                return both("find(" + a + ", " + b + ", " + c + ")", heap.find(a, b, c), model.find(a, b, c));
            case 7:
                return both("register(" + a + ", " + b + ")", heap.register(a, b), model.register(a, b));
            case 8:
                return both("next(" + a + ", " + b + ")", heap.next(a, b), model.next(a, b));
            case 9:
                return both("collect()", heap.collect(), model.collect());
            case 10:
                return both("same(" + a + ", " + b + ")", heap.same(a, b), model.same(a, b));
            case 11:
                int what = upTo(5);
                return both("count(" + what + ")", heap.count(what), model.count(what));
            default:
                return both("look(" + a + ", 1)", heap.look(a, 1), model.look(a, 1));
        }
    }

    private int[] make(int a, int b, int c) {
        int kind = upTo(4);
        int n = length();
        String made = "make(" + a + ", " + kind + ", " + b + ", " + c + ", " + n + ")";
        return both(made, heap.make(a, kind, b, c, n), model.make(a, kind, b, c, n));
    }

    /** Tables are looked for, lest most puts be refused. */
    private int[] put(int a, int b, int c) {
        int table = a;
        for (int r = 0; r < 8 && a >= 0 && a < 8; r++) {
            if (model.look((a + r) % 8, 0) == 4) {
                table = (a + r) % 8;
                break;
            }
        }
        return both("put(" + table + ", " + b + ", " + c + ")", heap.put(table, b, c), model.put(table, b, c));
    }
}

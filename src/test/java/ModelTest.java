import java.util.Random;

/** All promises: long runs of calls, the same each time, held against the document's plain retelling. */
public final class ModelTest {
    private static final int RUNS = 4000;
    private static final int CALLS = 512;
    private static final int MOST_AT_ONCE = 3;

    private final Check check;
    private final Random random;
    private final LayoutOptimizer x;
    private final Model model;
    private final int run;
    private int made = 0;
    private final int functions;
    private final int heatTop;

    private ModelTest(Check check, int run) {
        this.check = check;
        this.run = run;
        this.random = new Random(run);
        int range = random.nextInt(4) == 0 ? random.nextInt(500) - 20 : 4 + random.nextInt(60);
        this.x = new LayoutOptimizer(range);
        this.model = new Model(range);
        this.functions = 1 + random.nextInt(4);
        this.heatTop = new int[] {2, 5, 50, 100000}[random.nextInt(4)];
    }

    public static void main(String[] args) {
        Check check = new Check("All promises");
        check.test("long runs of calls, held against the model", ModelTest::playAll);
        check.end();
    }

    private static void playAll(Check check) {
        for (int run = 0; run < RUNS; run++) {
            new ModelTest(check, run).play();
        }
    }

    private void play() {
        int blocks = 1 + random.nextInt(26);
        for (int k = 0; k < blocks; k++) {
            makeBlock();
        }
        for (int k = 0; k < 2 * blocks; k++) {
            giveEnd();
        }
        int layouts = 1 + random.nextInt(3);
        for (int k = 0; k < layouts; k++) {
            warm();
            int mode = random.nextInt(8) == 0 ? random.nextInt(4) - 1 : random.nextInt(3) == 0 ? 0 : 1;
            due("layout(" + mode + ")", x.layout(mode), model.layout(mode));
            if (k + 1 == layouts) {
                askAll();
            }
        }
        while (made + MOST_AT_ONCE <= CALLS) {
            anyCall();
        }
    }

    private void due(String call, int got, int want) {
        made++;
        check.due("run " + run + ", call " + made + ": " + call, got, want);
    }

    private int anyBlock() {
        return random.nextInt(30) == 0 ? random.nextInt(28) - 2 : random.nextInt(Math.max(1, model.count(0)));
    }

    private int anyFunction() {
        return random.nextInt(30) == 0 ? random.nextInt(7) - 2 : random.nextInt(functions);
    }

    private int anyEdge() {
        return random.nextInt(10) == 0 ? random.nextInt(5) - 2 : random.nextInt(2);
    }

    private void makeBlock() {
        int f = anyFunction();
        int body = random.nextInt(20) == 0 ? random.nextInt(60) - 10 : 1 + random.nextInt(40);
        due("block(" + f + ", " + body + ")", x.block(f, body), model.block(f, body));
    }

    private void giveEnd() {
        int b = anyBlock();
        int p = anyBlock();
        int q = anyBlock();
        if (random.nextInt(3) == 0) {
            due("jump(" + b + ", " + p + ")", x.jump(b, p), model.end(b, p));
        } else {
            due("test(" + b + ", " + p + ", " + q + ")", x.test(b, p, q), model.end(b, p, q));
        }
    }

    private void warm() {
        int calls = random.nextInt(40);
        for (int k = 0; k < calls; k++) {
            if (random.nextInt(4) == 0) {
                walk();
            } else {
                heat();
            }
        }
    }

    private int anyHolds() {
        return random.nextBoolean() ? random.nextInt() : random.nextInt() | random.nextInt();
    }

    private void walk() {
        int f = anyFunction();
        int holds = anyHolds();
        due("walk(" + f + ", " + holds + ")", x.walk(f, holds), model.walk(f, holds));
    }

    private void heat() {
        int b = anyBlock();
        int e = anyEdge();
        int n = random.nextInt(30) == 0 ? random.nextInt(100010) - 3 : 1 + random.nextInt(heatTop);
        due("heat(" + b + ", " + e + ", " + n + ")", x.heat(b, e, n), model.heat(b, e, n));
    }

    private void askCost() {
        int f = anyFunction();
        int holds = anyHolds();
        due("cost(" + f + ", " + holds + ")", x.cost(f, holds), model.cost(f, holds));
    }

    private void askAll() {
        for (int what = 0; what <= 5; what++) {
            due("count(" + what + ")", x.count(what), model.count(what));
        }
        for (int b = 0; b < model.count(0); b++) {
            due("at(" + b + ")", x.at(b), model.at(b));
            askBlock(b, 0);
        }
        askCost();
    }

    private void askBlock(int b, int i) {
        due("address(" + b + ")", x.address(b), model.address(b));
        due("branch(" + b + ", " + i + ")", x.branch(b, i), model.branch(b, i));
        due("target(" + b + ", " + i + ")", x.target(b, i), model.target(b, i));
    }

    private void anyCall() {
        switch (random.nextInt(10)) {
            case 0 -> walk();
            case 1, 2 -> heat();
            case 3 -> askBlock(anyBlock(), anyEdge());
            case 4 -> askCost();
            case 5 -> {
                int mode = random.nextInt(2);
                due("layout(" + mode + ")", x.layout(mode), model.layout(mode));
            }
            case 6 -> {
                int what = random.nextInt(8) - 1;
                due("count(" + what + ")", x.count(what), model.count(what));
            }
            case 7 -> {
                int b = anyBlock();
                int e = random.nextInt(5) - 2;
                due("heatOf(" + b + ", " + e + ")", x.heatOf(b, e), model.heatOf(b, e));
            }
            case 8 -> {
                int k = anyBlock();
                due("at(" + k + ")", x.at(k), model.at(k));
            }
            default -> rareCall();
        }
    }

    private void rareCall() {
        int kind = random.nextInt(20);
        if (kind == 0) {
            due("cool()", x.cool(), model.cool());
        } else if (kind < 10) {
            makeBlock();
        } else {
            giveEnd();
        }
    }
}

/** Promise 2. */
public final class BlockTest {
    private static final int[][] WRONG = {
        {-1, 1}, {4, 1}, {0, 0}, {0, 41}, {0, -1},
        {Integer.MIN_VALUE, 1}, {Integer.MAX_VALUE, 1}, {0, Integer.MIN_VALUE}, {0, Integer.MAX_VALUE}};

    public static void main(String[] args) {
        Check check = new Check();
        numbers(check);
        startsWithReturn(check);
        full(check);
        afterLayout(check);
        check.end();
    }

    private static void refusesWrong(Check check, String when, LayoutOptimizer x) {
        int blocks = x.count(0);
        for (int[] wrong : WRONG) {
            check.due(when + ": block(" + wrong[0] + ", " + wrong[1] + ")",
                    x.block(wrong[0], wrong[1]), LayoutOptimizer.REFUSED);
        }
        check.due(when + ": count(0)", x.count(0), blocks);
    }

    private static void numbers(Check check) {
        LayoutOptimizer x = new LayoutOptimizer(20);
        refusesWrong(check, "empty", x);
        check.due("block(3, 40)", x.block(3, 40), 0);
        check.due("block(0, 1)", x.block(0, 1), 1);
        refusesWrong(check, "two blocks", x);
        check.due("block(2, 7)", x.block(2, 7), 2);
        check.due("block(1, 9)", x.block(1, 9), 3);
        check.due("count(0)", x.count(0), 4);
    }

    private static void startsWithReturn(Check check) {
        LayoutOptimizer x = new LayoutOptimizer(20);
        x.block(1, 6);
        x.block(1, 7);
        check.due("walk(1, -1)", x.walk(1, -1), 1);
        check.due("the entry is the least block", x.heatOf(0, -1), 1);
        check.due("the other is not entered", x.heatOf(1, -1), 0);
        check.due("no edge", x.heatOf(0, 0), LayoutOptimizer.NONE);
        check.due("bodies and two returns", x.layout(0), 6 + 1 + 7 + 1);
        check.due("no branch", x.branch(0, 0), LayoutOptimizer.NONE);
    }

    private static void full(Check check) {
        LayoutOptimizer x = new LayoutOptimizer(20);
        for (int b = 0; b < 24; b++) {
            check.due("block " + b, x.block(b % 4, 1 + b), b);
        }
        check.due("25th", x.block(0, 1), LayoutOptimizer.FULL);
        check.due("26th", x.block(3, 40), LayoutOptimizer.FULL);
        refusesWrong(check, "full", x);
        check.due("full: count(0)", x.count(0), 24);
        x.layout(0);
        check.due("full and laid out", x.block(0, 1), LayoutOptimizer.REFUSED);
    }

    private static void afterLayout(Check check) {
        LayoutOptimizer x = Samples.diamond(20);
        x.layout(7);
        check.due("a refused layout is none", x.block(1, 1), 4);
        x.layout(1);
        check.due("laid out", x.block(0, 1), LayoutOptimizer.REFUSED);
        check.due("laid out: count(0)", x.count(0), 5);
    }
}

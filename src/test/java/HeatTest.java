/** Promise 6. */
public final class HeatTest {
    private static final int[][] WRONG = {
        {0, 0, 0}, {0, 0, 100001}, {0, 0, -1}, {0, 2, 1}, {0, -1, 1}, {1, 1, 1}, {3, 0, 1}, {3, 1, 1},
        {4, 0, 1}, {-1, 0, 1}, {24, 0, 1}, {0, 0, Integer.MIN_VALUE}, {0, 0, Integer.MAX_VALUE},
        {Integer.MIN_VALUE, 0, 1}, {Integer.MAX_VALUE, 0, 1}, {0, Integer.MIN_VALUE, 1}, {0, Integer.MAX_VALUE, 1}};

    public static void main(String[] args) {
        Check check = new Check();
        adds(check);
        staysAtMost(check);
        refuses(check);
        check.end();
    }

    private static void adds(Check check) {
        LayoutOptimizer x = Samples.diamond(20);
        check.due("heat(0, 0, 1)", x.heat(0, 0, 1), 1);
        check.due("heat(0, 0, 100000)", x.heat(0, 0, 100000), 100001);
        check.due("heat(0, 1, 7)", x.heat(0, 1, 7), 7);
        check.due("heat(1, 0, 20)", x.heat(1, 0, 20), 20);
        check.due("heat(2, 0, 30)", x.heat(2, 0, 30), 30);
        check.due("the edge's own block", x.heatOf(0, -1), 0);
        check.due("where edge 0 leads", x.heatOf(1, -1), 100001);
        check.due("where edge 1 leads", x.heatOf(2, -1), 7);
        check.due("where both jumps lead", x.heatOf(3, -1), 50);
        x.layout(0);
        check.due("behind a layout", x.heat(0, 1, 3), 10);
    }

    private static void staysAtMost(Check check) {
        LayoutOptimizer x = Samples.diamond(20);
        for (int k = 1; k <= 9; k++) {
            check.due("heat " + k, x.heat(1, 0, 100000), k * 100000);
        }
        check.due("heat(1, 0, 99999)", x.heat(1, 0, 99999), 999999);
        check.due("heat(1, 0, 2)", x.heat(1, 0, 2), 1000000);
        check.due("heat(1, 0, 100000)", x.heat(1, 0, 100000), 1000000);
        check.due("the other edge", x.heat(2, 0, 100000), 100000);
        check.due("the block that both lead to", x.heatOf(3, -1), 1000000);
    }

    private static void refuses(Check check) {
        LayoutOptimizer x = Samples.diamond(20);
        for (int[] wrong : WRONG) {
            check.due("heat(" + wrong[0] + ", " + wrong[1] + ", " + wrong[2] + ")",
                    x.heat(wrong[0], wrong[1], wrong[2]), LayoutOptimizer.REFUSED);
        }
        for (int b = 0; b < 4; b++) {
            check.due("count of " + b, x.heatOf(b, -1), 0);
            check.due("edge 0 of " + b, x.heatOf(b, 0), b == 3 ? LayoutOptimizer.NONE : 0);
        }
    }
}

/** Promise 4. */
public final class TestEndTest {
    private static final int[][] WRONG = {
        {-1, 0, 0}, {6, 0, 0}, {0, -1, 1}, {0, 1, -1}, {0, 6, 1}, {0, 1, 6}, {0, 4, 1}, {0, 1, 4}, {4, 0, 1},
        {4, 5, 0}, {4, 0, 5}, {0, 4, 4}, {24, 24, 24}, {Integer.MIN_VALUE, 0, 0}, {Integer.MAX_VALUE, 0, 0},
        {0, Integer.MIN_VALUE, 0}, {0, Integer.MAX_VALUE, 0}, {0, 0, Integer.MIN_VALUE}, {0, 0, Integer.MAX_VALUE}};

    public static void main(String[] args) {
        Check check = new Check();
        leads(check);
        clearsBothEdges(check);
        refuses(check);
        check.end();
    }

    private static void leads(Check check) {
        LayoutOptimizer x = Samples.twoFunctions();
        check.due("test(0, 1, 2)", x.test(0, 1, 2), 0);
        x.walk(0, 1);
        check.due("holds: the first", x.heatOf(1, -1), 1);
        check.due("holds: not the second", x.heatOf(2, -1), 0);
        x.walk(0, 0);
        check.due("holds not: the second", x.heatOf(2, -1), 1);
        check.due("both to itself", x.test(3, 3, 3), 0);
        check.due("both to the entry", x.test(1, 0, 0), 0);
        check.due("the other function", x.test(5, 4, 5), 0);
    }

    private static void clearsBothEdges(Check check) {
        LayoutOptimizer x = Samples.twoFunctions();
        x.test(0, 1, 2);
        x.heat(0, 0, 5);
        x.heat(0, 1, 6);
        check.due("test(0, 1, 2) again", x.test(0, 1, 2), 0);
        check.due("edge 0", x.heatOf(0, 0), 0);
        check.due("edge 1", x.heatOf(0, 1), 0);
        check.due("the first block's count stays", x.heatOf(1, -1), 5);
        check.due("the second block's count stays", x.heatOf(2, -1), 6);
        x.heat(0, 1, 8);
        x.jump(0, 3);
        x.heat(0, 0, 7);
        check.due("test behind a jump", x.test(0, 3, 3), 0);
        check.due("edge 0 behind a jump", x.heatOf(0, 0), 0);
        check.due("edge 1 behind a jump", x.heatOf(0, 1), 0);
    }

    private static void refuses(Check check) {
        LayoutOptimizer x = Samples.twoFunctions();
        x.test(0, 2, 3);
        x.heat(0, 0, 9);
        x.heat(0, 1, 8);
        for (int[] wrong : WRONG) {
            check.due("test(" + wrong[0] + ", " + wrong[1] + ", " + wrong[2] + ")",
                    x.test(wrong[0], wrong[1], wrong[2]), LayoutOptimizer.REFUSED);
        }
        check.due("edge 0 is as it was", x.heatOf(0, 0), 9);
        check.due("edge 1 is as it was", x.heatOf(0, 1), 8);
        check.due("4 still returns", x.heatOf(4, 0), LayoutOptimizer.NONE);
        x.layout(1);
        check.due("laid out", x.test(0, 1, 2), LayoutOptimizer.REFUSED);
        check.due("laid out: edge 1 is as it was", x.heatOf(0, 1), 8);
    }
}

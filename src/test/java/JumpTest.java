/** Promise 3. */
public final class JumpTest {
    private static final int[][] WRONG = {
        {-1, 0}, {6, 0}, {0, -1}, {0, 6}, {0, 4}, {4, 0}, {24, 24},
        {Integer.MIN_VALUE, 0}, {0, Integer.MIN_VALUE}, {Integer.MAX_VALUE, 0}, {0, Integer.MAX_VALUE}};

    public static void main(String[] args) {
        Check check = new Check();
        leads(check);
        clearsTheEdge(check);
        refuses(check);
        check.end();
    }

    private static void leads(Check check) {
        LayoutOptimizer x = Samples.twoFunctions();
        check.due("jump(0, 2)", x.jump(0, 2), 0);
        check.due("jump(2, 1)", x.jump(2, 1), 0);
        check.due("jump(4, 5)", x.jump(4, 5), 0);
        check.due("0, 2, 1", x.walk(0, 0), 3);
        check.due("the second function", x.walk(2, 0), 2);
        check.due("jump(1, 1)", x.jump(1, 1), 0);
        check.due("to itself without end", x.walk(0, 0), 60);
        check.due("jump(2, 0)", x.jump(2, 0), 0);
        check.due("to the entry without end", x.walk(0, 0), 60);
        check.due("no second edge", x.heatOf(0, 1), LayoutOptimizer.NONE);
    }

    private static void clearsTheEdge(Check check) {
        LayoutOptimizer x = Samples.twoFunctions();
        x.test(0, 1, 2);
        x.heat(0, 0, 5);
        x.heat(0, 1, 6);
        check.due("jump(0, 1)", x.jump(0, 1), 0);
        check.due("edge 0", x.heatOf(0, 0), 0);
        check.due("edge 1", x.heatOf(0, 1), LayoutOptimizer.NONE);
        check.due("the block's count stays", x.heatOf(1, -1), 5);
        x.heat(0, 0, 4);
        check.due("jump(0, 1) again", x.jump(0, 1), 0);
        check.due("edge 0 again", x.heatOf(0, 0), 0);
        check.due("heat starts anew", x.heat(0, 0, 3), 3);
    }

    private static void refuses(Check check) {
        LayoutOptimizer x = Samples.twoFunctions();
        x.jump(0, 3);
        x.heat(0, 0, 9);
        for (int[] wrong : WRONG) {
            check.due("jump(" + wrong[0] + ", " + wrong[1] + ")",
                    x.jump(wrong[0], wrong[1]), LayoutOptimizer.REFUSED);
        }
        check.due("the count is as it was", x.heatOf(0, 0), 9);
        check.due("4 still returns", x.heatOf(4, 0), LayoutOptimizer.NONE);
        x.layout(0);
        check.due("laid out", x.jump(0, 1), LayoutOptimizer.REFUSED);
        check.due("laid out: the count is as it was", x.heatOf(0, 0), 9);
        check.due("laid out: the target is as it was", x.target(0, 0), 3);
    }
}

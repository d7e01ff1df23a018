/** Promise 13. */
public final class CostTest {
    public static void main(String[] args) {
        Check check = new Check();
        refuses(check);
        jumpsAndTurnedTests(check);
        twoBranches(check);
        sameTargets(check);
        sixty(check);
        leavesCounts(check);
        check.end();
    }

    private static void refuses(Check check) {
        LayoutOptimizer x = Samples.diamond(20);
        check.due("no layout", x.cost(0, 0), LayoutOptimizer.REFUSED);
        x.layout(0);
        for (int f : new int[] {1, 2, 3, 4, -1, Integer.MIN_VALUE, Integer.MAX_VALUE}) {
            check.due("cost(" + f + ", 0)", x.cost(f, 0), LayoutOptimizer.REFUSED);
        }
    }

    private static void jumpsAndTurnedTests(Check check) {
        LayoutOptimizer x = Samples.diamond(31);
        x.layout(0);
        check.due("not taken, a short jump, a return", x.cost(0, 1), 1 + 2 + 1);
        check.due("taken, no branch, a return", x.cost(0, 0), 2 + 0 + 1);
        LayoutOptimizer y = Samples.diamond(22);
        y.layout(0);
        check.due("not taken, a long jump, a return", y.cost(0, 1), 1 + 3 + 1);
        check.due("taken and long, no branch, a return", y.cost(0, 0), 3 + 0 + 1);
        y.heat(0, 1, 1);
        y.heat(2, 0, 1);
        y.layout(1);
        // 0, 2, 3, 1: the branch of 0 leads to 1 and is not turned round.
        check.due("by chains: taken and long, a long jump, a return", y.cost(0, 1), 3 + 3 + 1);
        check.due("by chains: not taken, no branch, a return", y.cost(0, -2), 1 + 0 + 1);
    }

    private static void twoBranches(Check check) {
        LayoutOptimizer x = Samples.fork(5);
        x.layout(0);
        check.due("the first, short", x.cost(0, 1), 2 + 1);
        check.due("the second, short", x.cost(0, 0), 3 + 1);
        LayoutOptimizer y = Samples.fork(4);
        y.layout(0);
        check.due("the first, long", y.cost(0, 1), 3 + 1);
        check.due("the second, long", y.cost(0, 0), 4 + 1);
        // The branches of 0 stand at 1 and 2: to itself over 1 unit, and to 2 over 12.
        LayoutOptimizer z = new LayoutOptimizer(9);
        z.block(0, 1);
        z.block(0, 10);
        z.block(0, 10);
        z.test(0, 0, 2);
        z.layout(0);
        check.due("first to itself, short", z.branch(0, 0), LayoutOptimizer.SHORT);
        check.due("second to 2, long", z.branch(0, 1), LayoutOptimizer.LONG);
        check.due("the first short, then the second long", z.cost(0, 1), 2 + 4 + 1);
    }

    private static void sameTargets(Check check) {
        LayoutOptimizer x = Samples.blocks(20, 3, 2);
        x.test(0, 1, 1);
        x.test(1, 2, 2);
        x.layout(0);
        check.due("both hold", x.cost(0, 3), 2 + 2 + 1);
        check.due("the first holds", x.cost(0, 1), 2 + 1 + 1);
        check.due("the second holds", x.cost(0, 2), 1 + 2 + 1);
        check.due("neither holds", x.cost(0, 0), 1 + 1 + 1);
    }

    /** The 60th block is left, too, by the bit that would be next. */
    private static void sixty(Check check) {
        LayoutOptimizer x = Samples.blocks(20, 3, 1);
        x.jump(0, 1);
        x.test(1, 1, 0);
        x.layout(0);
        // 0; 1 and its test, that holds 32 times; 1 once more; then 0 and 1 in turn, 13 of each.
        check.due("32 bits and no more", x.cost(0, -1), 32 * 2 + 14 * 3);
        LayoutOptimizer y = Samples.blocks(20, 2, 1);
        y.jump(0, 0);
        y.layout(0);
        check.due("60 jumps", y.cost(0, 0), 60 * 2);
        LayoutOptimizer z = Samples.blocks(20, 2, 1);
        z.jump(0, 1);
        z.test(1, 0, 0);
        z.layout(0);
        check.due("30 jumps left out, 30 tests that hold", z.cost(0, -1), 30 * 2);
        check.due("the last test does not hold", z.cost(0, (1 << 29) - 1), 29 * 2 + 3);
        check.due("bit 30 is beyond", z.cost(0, (1 << 30) - 1), 30 * 2);
    }

    private static void leavesCounts(Check check) {
        LayoutOptimizer x = Samples.diamond(20);
        x.walk(0, 1);
        x.layout(1);
        x.cost(0, 1);
        x.cost(0, 0);
        check.due("blocks", x.heatOf(0, -1), 1);
        check.due("edge 0", x.heatOf(0, 0), 1);
        check.due("edge 1", x.heatOf(0, 1), 0);
        check.due("3", x.heatOf(3, -1), 1);
    }
}

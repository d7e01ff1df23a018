/** Promise 5. */
public final class WalkTest {
    public static void main(String[] args) {
        Check check = new Check();
        counts(check);
        bitsInTurn(check);
        endsAtSixty(check);
        returnsNearSixty(check);
        staysAtMost(check);
        refuses(check);
        check.end();
    }

    private static void counts(Check check) {
        LayoutOptimizer x = Samples.diamond(20);
        check.due("walk(0, 1)", x.walk(0, 1), 3);
        check.due("walk(0, 0)", x.walk(0, 0), 3);
        check.due("walk(0, 3)", x.walk(0, 3), 3);
        check.due("walk(0, -2)", x.walk(0, -2), 3);
        check.due("walk(0, 5)", x.walk(0, 5), 3);
        due(check, x, 0, 5, 3, 2);
        due(check, x, 1, 3, 3, LayoutOptimizer.NONE);
        due(check, x, 2, 2, 2, LayoutOptimizer.NONE);
        due(check, x, 3, 5, LayoutOptimizer.NONE, LayoutOptimizer.NONE);
        x.layout(1);
        check.due("walk(0, 1) behind a layout", x.walk(0, 1), 3);
        check.due("counts go on", x.heatOf(1, 0), 4);
    }

    private static void due(Check check, LayoutOptimizer x, int block, int own, int first, int second) {
        check.due("count of " + block, x.heatOf(block, -1), own);
        check.due("edge 0 of " + block, x.heatOf(block, 0), first);
        check.due("edge 1 of " + block, x.heatOf(block, 1), second);
    }

    /** A bit is used up by a TEST alone, and by each in turn. */
    private static void bitsInTurn(Check check) {
        LayoutOptimizer x = Samples.blocks(20, 5, 1);
        x.test(0, 1, 4);
        x.jump(1, 2);
        x.test(2, 4, 3);
        x.test(3, 0, 4);
        check.due("0 1 2 3 0 1 2 4", x.walk(0, 0b11101), 8);
        due(check, x, 0, 2, 2, 0);
        due(check, x, 2, 2, 1, 1);
        due(check, x, 3, 1, 1, 0);
        due(check, x, 4, 1, LayoutOptimizer.NONE, LayoutOptimizer.NONE);
    }

    private static void endsAtSixty(Check check) {
        LayoutOptimizer x = Samples.blocks(20, 2, 1);
        x.test(0, 0, 0);
        check.due("all bits", x.walk(0, -1), 60);
        due(check, x, 0, 60, 32, 27);
        x.cool();
        check.due("the highest bit", x.walk(0, Integer.MIN_VALUE), 60);
        due(check, x, 0, 60, 1, 58);
    }

    /** 0 and 1 in turn as often as there are bits, then 2 and 3. */
    private static void returnsNearSixty(Check check) {
        LayoutOptimizer x = Samples.blocks(20, 4, 1);
        x.test(0, 1, 2);
        x.jump(1, 0);
        check.due("returns in the 60th", x.walk(0, (1 << 29) - 1), 60);
        due(check, x, 0, 30, 29, 1);
        check.due("the 60th is entered", x.heatOf(2, -1), 1);
        x.jump(2, 3);
        check.due("returns in the 59th", x.walk(0, (1 << 28) - 1), 59);
        due(check, x, 2, 2, 1, LayoutOptimizer.NONE);
        check.due("would return in the 61st", x.walk(0, (1 << 29) - 1), 60);
        due(check, x, 2, 3, 1, LayoutOptimizer.NONE);
        due(check, x, 3, 1, LayoutOptimizer.NONE, LayoutOptimizer.NONE);
    }

    private static void staysAtMost(Check check) {
        LayoutOptimizer x = Samples.blocks(20, 2, 1);
        x.jump(0, 1);
        x.jump(1, 0);
        for (int k = 0; k < 10; k++) {
            x.heat(0, 0, 100000);
            x.heat(1, 0, 99999);
        }
        check.due("walk(0, 0)", x.walk(0, 0), 60);
        due(check, x, 0, 1000000, 1000000, LayoutOptimizer.NONE);
        due(check, x, 1, 1000000, 999990 + 10, LayoutOptimizer.NONE);
    }

    private static void refuses(Check check) {
        LayoutOptimizer x = Samples.diamond(20);
        for (int f : new int[] {1, 2, 3, -1, 4, Integer.MIN_VALUE, Integer.MAX_VALUE}) {
            check.due("walk(" + f + ", 0)", x.walk(f, 0), LayoutOptimizer.REFUSED);
        }
        due(check, x, 0, 0, 0, 0);
    }
}

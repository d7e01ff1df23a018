/** Promise 14. */
public final class HeatOfTest {
    private static final int NONE = LayoutOptimizer.NONE;
    private static final int[] FAR = {-2, -3, 2, 3, Integer.MIN_VALUE, Integer.MAX_VALUE};

    public static void main(String[] args) {
        Check check = new Check("Promise 14, heatOf");
        check.test("Each block has a count, and each of its edges, all 0 at first", HeatOfTest::zeroAtFirst);
        check.test("The count of a block (e = -1)", HeatOfTest::ofBlock);
        check.test("or of its edge e 0, 1 (JUMP: edge 0; TEST: edges 0 and 1)", HeatOfTest::ofEdge);
        check.test("NONE if there is no such block", HeatOfTest::noSuchBlock);
        check.test("NONE if there is no such edge", HeatOfTest::noSuchEdge);
        check.test("at most 1000000", HeatOfTest::most);
        check.test("with a LAYOUT as without one", HeatOfTest::behindLayout);
        check.test("a call that answers NONE changes nothing", HeatOfTest::changesNothing);
        check.end();
    }

    private static void zeroAtFirst(Check check) {
        LayoutOptimizer x = Samples.diamond(20);
        check.dueHeat("a test", x, 0, 0, 0, 0);
        check.dueHeat("a jump", x, 1, 0, 0, NONE);
        check.dueHeat("a return", x, 3, 0, NONE, NONE);
    }

    private static void ofBlock(Check check) {
        LayoutOptimizer x = Samples.busy();
        int[] due = {6, 3, 5, 6, 1, 0, 7, NONE};
        for (int b = 0; b < due.length; b++) {
            check.due("heatOf(" + b + ", -1)", x.heatOf(b, -1), due[b]);
        }
    }

    private static void ofEdge(Check check) {
        LayoutOptimizer x = Samples.busy();
        int[] first = {3, 2, 4, 6, NONE, 7, NONE, NONE};
        int[] second = {5, NONE, 1, NONE, NONE, NONE, NONE, NONE};
        for (int b = 0; b < first.length; b++) {
            check.due("heatOf(" + b + ", 0)", x.heatOf(b, 0), first[b]);
            check.due("heatOf(" + b + ", 1)", x.heatOf(b, 1), second[b]);
        }
    }

    private static void noSuchBlock(Check check) {
        check.dueHeat("no blocks", new LayoutOptimizer(4), 0, NONE, NONE, NONE);
        LayoutOptimizer x = Samples.diamond(20);
        for (int b : new int[] {-1, 4, 23, 24, Integer.MIN_VALUE, Integer.MAX_VALUE}) {
            check.dueHeat("no such block", x, b, NONE, NONE, NONE);
        }
        LayoutOptimizer full = Samples.full();
        check.dueHeat("full, the last", full, 23, 2, 4, 0);
        check.dueHeat("full, behind it", full, 24, NONE, NONE, NONE);
    }

    private static void noSuchEdge(Check check) {
        LayoutOptimizer x = Samples.diamond(20);
        for (int e : FAR) {
            for (int b = 0; b < 4; b++) {
                check.due("heatOf(" + b + ", " + e + ")", x.heatOf(b, e), NONE);
            }
        }
        check.dueHeat("a test has both", x, 0, 0, 0, 0);
        x.heat(0, 1, 8);
        x.jump(0, 1);
        check.dueHeat("a jump that was a test has one", x, 0, 0, 0, NONE);
        x.test(0, 1, 2);
        check.dueHeat("a test again", x, 0, 0, 0, 0);
    }

    private static void most(Check check) {
        LayoutOptimizer x = Samples.diamond(20);
        for (int k = 0; k < 9; k++) {
            x.heat(0, 1, 100000);
        }
        x.heat(0, 1, 99999);
        check.dueHeat("the edge, one less", x, 0, 0, 0, 999999);
        check.due("the block, one less", x.heatOf(2, -1), 999999);
        x.heat(0, 1, 1);
        check.dueHeat("the edge, the most", x, 0, 0, 0, 1000000);
        check.due("the block, the most", x.heatOf(2, -1), 1000000);
        x.heat(0, 1, 1);
        check.dueHeat("the edge stays", x, 0, 0, 0, 1000000);
        check.due("the block stays", x.heatOf(2, -1), 1000000);
    }

    private static void behindLayout(Check check) {
        LayoutOptimizer x = Samples.busy();
        x.layout(1);
        check.dueHeat("a test", x, 2, 5, 4, 1);
        check.dueHeat("a jump", x, 3, 6, 6, NONE);
        check.dueHeat("a return", x, 4, 1, NONE, NONE);
        check.dueHeat("no such block", x, 7, NONE, NONE, NONE);
        x.heat(2, 1, 6);
        check.dueHeat("heated behind it", x, 2, 5, 4, 7);
    }

    private static void changesNothing(Check check) {
        int[][] none = {{-1, -1}, {-1, 0}, {24, -1}, {24, 0}, {24, 1}, {0, -2}, {0, 2}, {2, -2}, {2, 2}};
        for (int[] w : none) {
            Unchanged.dueInEveryState(check, "heatOf(" + w[0] + ", " + w[1] + ")", NONE, x -> x.heatOf(w[0], w[1]));
        }
        Unchanged.due(check, "busy: heatOf(1, 1)", NONE, Samples::busy, x -> x.heatOf(1, 1));
        Unchanged.due(check, "busy: heatOf(4, 0)", NONE, Samples::busy, x -> x.heatOf(4, 0));
    }
}

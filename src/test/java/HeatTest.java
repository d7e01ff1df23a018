/** Promise 6. */
public final class HeatTest {
    private static final int REFUSED = LayoutOptimizer.REFUSED;
    private static final int NONE = LayoutOptimizer.NONE;

    public static void main(String[] args) {
        Check check = new Check("Promise 6, heat");
        check.test("Adds n, 1 .. 100000", HeatTest::amounts);
        check.test("to the count of the block's edge e (0 or 1)", HeatTest::edges);
        check.test("and to that of the block that it leads to", HeatTest::whereItLeads);
        check.test("No such block: REFUSED", HeatTest::noSuchBlock);
        check.test("No such edge: REFUSED", HeatTest::noSuchEdge);
        check.test("Answers the edge's count", HeatTest::answersTheEdge);
        check.test("an edge's count is at most 1000000 (they stay there then)", HeatTest::edgeStaysAtMost);
        check.test("a block's count is at most 1000000 (they stay there then)", HeatTest::blockStaysAtMost);
        check.test("counts at most 1000000 are equal there", HeatTest::equalAtMost);
        check.test("a LAYOUT stays, and does not end heat", HeatTest::behindLayout);
        check.test("a refused call changes nothing", HeatTest::refusedChangesNothing);
        check.end();
    }

    private static void amounts(Check check) {
        int[] right = {1, 2, 99999, 100000};
        for (int n : right) {
            LayoutOptimizer x = Samples.diamond(20);
            check.due("heat(0, 0, " + n + ")", x.heat(0, 0, n), n);
            check.dueHeat("the edge", x, 0, 0, n, 0);
            check.dueHeat("where it leads", x, 1, n, 0, NONE);
            check.due("the same again", x.heat(0, 0, n), 2 * n);
        }
        int[] wrong = {0, -1, -2, 100001, 100002, Integer.MIN_VALUE, Integer.MAX_VALUE};
        LayoutOptimizer y = Samples.diamond(20);
        for (int n : wrong) {
            check.due("heat(0, 0, " + n + ")", y.heat(0, 0, n), REFUSED);
        }
        check.dueHeat("the edge", y, 0, 0, 0, 0);
        check.dueHeat("where it leads", y, 1, 0, 0, NONE);
    }

    private static void edges(Check check) {
        LayoutOptimizer x = Samples.diamond(20);
        check.due("heat(0, -1, 4)", x.heat(0, -1, 4), REFUSED);
        check.due("heat(0, 0, 4)", x.heat(0, 0, 4), 4);
        check.dueHeat("edge 0 alone", x, 0, 0, 4, 0);
        check.due("heat(0, 1, 5)", x.heat(0, 1, 5), 5);
        check.dueHeat("edge 1 too", x, 0, 0, 4, 5);
        check.due("heat(0, 2, 4)", x.heat(0, 2, 4), REFUSED);
        check.dueHeat("the block behind", x, 1, 4, 0, NONE);
    }

    private static void whereItLeads(Check check) {
        LayoutOptimizer x = Samples.diamond(20);
        x.heat(0, 0, 1);
        x.heat(0, 0, 100000);
        x.heat(0, 1, 7);
        x.heat(1, 0, 20);
        x.heat(2, 0, 30);
        check.due("the edges' own block", x.heatOf(0, -1), 0);
        check.due("where edge 0 leads", x.heatOf(1, -1), 100001);
        check.due("where edge 1 leads", x.heatOf(2, -1), 7);
        check.due("where both jumps lead", x.heatOf(3, -1), 50);
        LayoutOptimizer y = Samples.blocks(20, 2, 1);
        y.test(1, 1, 1);
        check.due("edge 0 to itself", y.heat(1, 0, 3), 3);
        check.due("edge 1 to itself", y.heat(1, 1, 4), 4);
        check.dueHeat("both add to itself", y, 1, 7, 3, 4);
        check.dueHeat("the other", y, 0, 0, NONE, NONE);
    }

    private static void noSuchBlock(Check check) {
        check.due("no blocks: heat(0, 0, 1)", new LayoutOptimizer(4).heat(0, 0, 1), REFUSED);
        LayoutOptimizer x = Samples.blocks(20, 2, 1);
        x.jump(0, 1);
        x.jump(1, 0);
        int[] none = {-1, 2, 3, 23, 24, Integer.MIN_VALUE, Integer.MAX_VALUE};
        for (int b : none) {
            check.due("heat(" + b + ", 0, 1)", x.heat(b, 0, 1), REFUSED);
            check.due("heat(" + b + ", 1, 1)", x.heat(b, 1, 1), REFUSED);
        }
        check.due("heat(0, 0, 1)", x.heat(0, 0, 1), 1);
        check.due("heat(1, 0, 1)", x.heat(1, 0, 1), 1);
        LayoutOptimizer full = Samples.full();
        check.due("full: heat(23, 1, 9)", full.heat(23, 1, 9), 9);
        check.due("full: heat(24, 0, 9)", full.heat(24, 0, 9), REFUSED);
        check.due("full: heat(24, 1, 9)", full.heat(24, 1, 9), REFUSED);
    }

    private static void noSuchEdge(Check check) {
        LayoutOptimizer x = Samples.diamond(20);
        int[] never = {-2, -1, 2, 3, Integer.MIN_VALUE, Integer.MAX_VALUE};
        for (int e : never) {
            for (int b = 0; b < 4; b++) {
                check.due("heat(" + b + ", " + e + ", 1)", x.heat(b, e, 1), REFUSED);
            }
        }
        check.due("a return has no edge 0", x.heat(3, 0, 1), REFUSED);
        check.due("a return has no edge 1", x.heat(3, 1, 1), REFUSED);
        check.due("a jump has edge 0", x.heat(1, 0, 1), 1);
        check.due("a jump has no edge 1", x.heat(1, 1, 1), REFUSED);
        check.due("a test has edge 0", x.heat(0, 0, 1), 1);
        check.due("a test has edge 1", x.heat(0, 1, 1), 1);
        x.jump(0, 1);
        check.due("a jump that was a test has no edge 1", x.heat(0, 1, 1), REFUSED);
    }

    private static void answersTheEdge(Check check) {
        LayoutOptimizer x = Samples.diamond(20);
        check.due("heat(1, 0, 20)", x.heat(1, 0, 20), 20);
        check.due("heat(2, 0, 30), not 50", x.heat(2, 0, 30), 30);
        check.due("heat(2, 0, 1)", x.heat(2, 0, 1), 31);
        x.walk(0, 0);
        check.due("one more by a walk", x.heat(2, 0, 1), 33);
    }

    private static void edgeStaysAtMost(Check check) {
        LayoutOptimizer x = Samples.diamond(20);
        for (int k = 1; k <= 9; k++) {
            check.due("heat " + k, x.heat(0, 1, 100000), k * 100000);
        }
        check.due("one less", x.heat(0, 1, 99999), 999999);
        check.due("the most", x.heat(0, 1, 1), 1000000);
        check.due("it stays there", x.heat(0, 1, 1), 1000000);
        check.due("it stays there by much", x.heat(0, 1, 100000), 1000000);
        check.due("heatOf(0, 1)", x.heatOf(0, 1), 1000000);
        for (int k = 0; k < 9; k++) {
            x.heat(0, 0, 100000);
        }
        x.heat(0, 0, 99999);
        check.due("from one less past it", x.heat(0, 0, 2), 1000000);
    }

    /** 1 and 2 both lead to 3, whose count is at its most before those of their edges. */
    private static void blockStaysAtMost(Check check) {
        LayoutOptimizer x = Samples.diamond(20);
        for (int k = 1; k <= 5; k++) {
            x.heat(1, 0, 100000);
            x.heat(2, 0, k < 5 ? 100000 : 99999);
        }
        check.due("one less", x.heatOf(3, -1), 999999);
        check.due("heat(1, 0, 1)", x.heat(1, 0, 1), 500001);
        check.due("the most", x.heatOf(3, -1), 1000000);
        check.due("heat(2, 0, 1)", x.heat(2, 0, 1), 500000);
        check.due("it stays there", x.heatOf(3, -1), 1000000);
        check.due("heat(2, 0, 100000)", x.heat(2, 0, 100000), 600000);
        check.due("it stays there by much", x.heatOf(3, -1), 1000000);
        LayoutOptimizer y = Samples.diamond(20);
        for (int k = 0; k < 9; k++) {
            y.heat(1, 0, 100000);
        }
        y.heat(2, 0, 99999);
        check.due("heat(2, 0, 2)", y.heat(2, 0, 2), 100001);
        check.due("from one less past it", y.heatOf(3, -1), 1000000);
        LayoutOptimizer z = Samples.diamond(20);
        for (int k = 0; k < 9; k++) {
            z.heat(1, 0, 100000);
        }
        z.heat(2, 0, 1);
        check.due("heat(2, 0, 100000)", z.heat(2, 0, 100000), 100001);
        check.due("from 99999 less past it by one", z.heatOf(3, -1), 1000000);
    }

    /** Edge 1 of 0 is heated by more, but its count is the same, so that edge 0 joins first. */
    private static void equalAtMost(Check check) {
        LayoutOptimizer x = Samples.diamond(400);
        for (int k = 0; k < 10; k++) {
            x.heat(0, 0, 100000);
            x.heat(0, 1, 100000);
        }
        x.heat(0, 1, 100000);
        x.layout(1);
        check.dueOrder("edge 0 first", x, 0, 1, 2, 3);
        check.due("chains", x.count(5), 3);
    }

    private static void behindLayout(Check check) {
        LayoutOptimizer x = Samples.diamond(22);
        x.heat(0, 0, 2);
        x.layout(1);
        check.due("heat(0, 1, 3)", x.heat(0, 1, 3), 3);
        check.due("heat(2, 0, 3)", x.heat(2, 0, 3), 3);
        check.dueHeat("counts go on", x, 2, 3, 3, NONE);
        check.dueOrder("the order stays", x, 0, 1, 2, 3);
        check.due("cold blocks stay", x.count(4), 2);
    }

    private static void refusedChangesNothing(Check check) {
        int[][] wrong = {{-1, 0, 5}, {24, 0, 5}, {24, 1, 5}, {0, -1, 5}, {0, 2, 5}, {2, -1, 5}, {2, 2, 5},
            {0, 0, 0}, {0, 0, -1}, {0, 0, 100001}, {0, 1, 0}, {0, 1, 100001}};
        for (int[] w : wrong) {
            Unchanged.dueInEveryState(check, told(w), REFUSED, x -> x.heat(w[0], w[1], w[2]));
        }
        int[][] wrongWhenBusy = {{7, 0, 5}, {1, 1, 5}, {3, 1, 5}, {4, 0, 5}, {4, 1, 5}, {6, 0, 5}};
        for (int[] w : wrongWhenBusy) {
            Unchanged.due(check, "busy: " + told(w), REFUSED, Samples::busy, x -> x.heat(w[0], w[1], w[2]));
            Unchanged.due(check, "laid out: " + told(w), REFUSED, () -> Samples.busyLaidOut(1),
                    x -> x.heat(w[0], w[1], w[2]));
        }
    }

    private static String told(int[] w) {
        return "heat(" + w[0] + ", " + w[1] + ", " + w[2] + ")";
    }
}

import java.util.function.Supplier;

/** Promise 3. */
public final class JumpTest {
    private static final int REFUSED = LayoutOptimizer.REFUSED;
    private static final int NONE = LayoutOptimizer.NONE;

    public static void main(String[] args) {
        Check check = new Check("Promise 3, jump");
        check.test("The block's END becomes JUMP to block y", JumpTest::leads);
        check.test("y may be the block itself and the ENTRY", JumpTest::leadsToItself);
        check.test("and its edge's count 0", JumpTest::clearsTheEdge);
        check.test("counts of blocks and of other blocks' edges stay", JumpTest::leavesOtherCounts);
        check.test("There is no such block: REFUSED", JumpTest::noSuchBlock);
        check.test("y is of another function: REFUSED", JumpTest::otherFunction);
        check.test("a LAYOUT was made, ever: REFUSED", JumpTest::afterLayout);
        check.test("a refused call changes nothing", JumpTest::refusedChangesNothing);
        check.end();
    }

    private static void leads(Check check) {
        LayoutOptimizer x = Samples.twoFunctions();
        check.due("from a return: jump(0, 2)", x.jump(0, 2), 0);
        check.due("back: jump(2, 1)", x.jump(2, 1), 0);
        check.due("of the other function: jump(4, 5)", x.jump(4, 5), 0);
        check.due("0, 2, 1", x.walk(0, 0), 3);
        check.due("4, 5", x.walk(2, 0), 2);
        check.due("from a jump: jump(0, 3)", x.jump(0, 3), 0);
        check.due("0, 3", x.walk(0, 0), 2);
        check.due("3 is entered", x.heatOf(3, -1), 1);
        x.test(0, 1, 2);
        check.due("from a test: jump(0, 1)", x.jump(0, 1), 0);
        check.due("0, 1", x.walk(0, 0), 2);
        check.due("no second edge", x.heatOf(0, 1), NONE);
    }

    private static void leadsToItself(Check check) {
        LayoutOptimizer x = Samples.blocks(20, 2, 3);
        check.due("jump(0, 0)", x.jump(0, 0), 0);
        check.due("without end", x.walk(0, 0), 60);
        check.due("jump(0, 1)", x.jump(0, 1), 0);
        check.due("jump(1, 0)", x.jump(1, 0), 0);
        check.due("to the entry without end", x.walk(0, 0), 60);
        check.due("0 is entered", x.heatOf(0, -1), 60 + 30);
    }

    private static void clearsTheEdge(Check check) {
        LayoutOptimizer x = Samples.twoFunctions();
        x.test(0, 1, 2);
        x.heat(0, 0, 5);
        x.heat(0, 1, 6);
        check.due("from a test: jump(0, 1)", x.jump(0, 1), 0);
        check.due("edge 0", x.heatOf(0, 0), 0);
        check.due("edge 1", x.heatOf(0, 1), NONE);
        x.heat(0, 0, 4);
        check.due("to the same block again: jump(0, 1)", x.jump(0, 1), 0);
        check.due("edge 0 again", x.heatOf(0, 0), 0);
        check.due("heat starts anew", x.heat(0, 0, 3), 3);
        for (int k = 0; k < 10; k++) {
            x.heat(0, 0, 100000);
        }
        x.jump(0, 2);
        check.due("from the most", x.heatOf(0, 0), 0);
    }

    private static void leavesOtherCounts(Check check) {
        LayoutOptimizer x = Samples.busy();
        x.jump(2, 4);
        check.dueHeat("the block", x, 2, 5, 0, NONE);
        check.dueHeat("where edge 0 led", x, 3, 2 + 4, 6, NONE);
        check.dueHeat("where edge 1 led", x, 4, 1, NONE, NONE);
        check.dueHeat("the block before", x, 1, 3, 2, NONE);
        check.dueHeat("the entry", x, 0, 6, 3, 5);
        check.dueHeat("the other function", x, 5, 0, 7, NONE);
    }

    private static void noSuchBlock(Check check) {
        check.due("no blocks: jump(0, 0)", new LayoutOptimizer(4).jump(0, 0), REFUSED);
        LayoutOptimizer x = Samples.blocks(20, 3, 1);
        int[] none = {-1, 3, 4, 23, 24, Integer.MIN_VALUE, Integer.MAX_VALUE};
        for (int b : none) {
            check.due("jump(" + b + ", 0)", x.jump(b, 0), REFUSED);
            check.due("jump(0, " + b + ")", x.jump(0, b), REFUSED);
            check.due("jump(" + b + ", " + b + ")", x.jump(b, b), REFUSED);
        }
        check.due("jump(2, 0)", x.jump(2, 0), 0);
        check.due("jump(0, 2)", x.jump(0, 2), 0);
        LayoutOptimizer full = Samples.full();
        check.due("full: jump(24, 0)", full.jump(24, 0), REFUSED);
        check.due("full: jump(0, 24)", full.jump(0, 24), REFUSED);
        check.due("full: jump(23, 0)", full.jump(23, 0), 0);
        check.due("full: jump(0, 23)", full.jump(0, 23), 0);
    }

    private static void otherFunction(Check check) {
        LayoutOptimizer x = new LayoutOptimizer(20);
        for (int b = 0; b < 8; b++) {
            x.block(b % 4, 1);
        }
        for (int b = 0; b < 8; b++) {
            for (int y = 0; y < 8; y++) {
                check.due("jump(" + b + ", " + y + ")", x.jump(b, y), b % 4 == y % 4 ? 0 : REFUSED);
            }
        }
    }

    private static void afterLayout(Check check) {
        for (int mode = 0; mode <= 1; mode++) {
            LayoutOptimizer x = Samples.blocks(20, 3, 1);
            x.layout(2);
            check.due("a refused layout is none: jump(0, 2)", x.jump(0, 2), 0);
            x.layout(mode);
            check.due("laid out: jump(0, 1)", x.jump(0, 1), REFUSED);
            x.layout(1 - mode);
            x.layout(3);
            x.cool();
            check.due("ever: jump(0, 1)", x.jump(0, 1), REFUSED);
            check.due("ever: jump(0, 2), as it is", x.jump(0, 2), REFUSED);
            check.due("0, 2", x.walk(0, 0), 2);
            check.due("2 is entered", x.heatOf(2, -1), 1);
        }
    }

    private static void refusedChangesNothing(Check check) {
        int[][] wrong = {{-1, 0}, {24, 0}, {0, -1}, {0, 24}, {24, 24}};
        for (int[] w : wrong) {
            Unchanged.dueInEveryState(check, "jump(" + w[0] + ", " + w[1] + ")", REFUSED, x -> x.jump(w[0], w[1]));
        }
        int[][] wrongWhenBusy = {{7, 0}, {0, 7}, {0, 5}, {5, 0}, {2, 6}, {6, 4}};
        dueUnchanged(check, "busy", Samples::busy, wrongWhenBusy);
        int[][] wrongWhenLaidOut = {{0, 1}, {1, 3}, {2, 4}, {4, 0}, {5, 5}, {6, 5}};
        dueUnchanged(check, "laid out by number", () -> Samples.busyLaidOut(0), wrongWhenLaidOut);
        dueUnchanged(check, "laid out by chains", () -> Samples.busyLaidOut(1), wrongWhenLaidOut);
    }

    private static void dueUnchanged(Check check, String when, Supplier<LayoutOptimizer> state, int[][] wrong) {
        for (int[] w : wrong) {
            Unchanged.due(check, when + ": jump(" + w[0] + ", " + w[1] + ")", REFUSED, state,
                    x -> x.jump(w[0], w[1]));
        }
    }
}

import java.util.function.Supplier;

/** Promise 4. */
public final class TestTest {
    private static final int REFUSED = LayoutOptimizer.REFUSED;

    public static void main(String[] args) {
        Check check = new Check("Promise 4, test");
        check.test("The block's END becomes TEST x, y", TestTest::leads);
        check.test("x and y may be the same, the block itself and the ENTRY", TestTest::leadsToTheSame);
        check.test("and its edges' counts 0", TestTest::clearsBothEdges);
        check.test("counts of blocks and of other blocks' edges stay", TestTest::leavesOtherCounts);
        check.test("There is no such block: REFUSED as in jump", TestTest::noSuchBlock);
        check.test("x or y is of another function: REFUSED as in jump", TestTest::otherFunction);
        check.test("a LAYOUT was made, ever: REFUSED as in jump", TestTest::afterLayout);
        check.test("a refused call changes nothing", TestTest::refusedChangesNothing);
        check.end();
    }

    private static void leads(Check check) {
        LayoutOptimizer x = Samples.twoFunctions();
        check.due("from a return: test(0, 1, 2)", x.test(0, 1, 2), 0);
        check.due("holds", x.walk(0, 1), 2);
        check.dueHeat("the test", x, 0, 1, 1, 0);
        check.due("holds: the first is entered", x.heatOf(1, -1), 1);
        check.due("holds: the second is not", x.heatOf(2, -1), 0);
        check.due("holds not", x.walk(0, 0), 2);
        check.dueHeat("the test again", x, 0, 2, 1, 1);
        check.due("holds not: the second is entered", x.heatOf(2, -1), 1);
        check.due("from a test: test(0, 3, 1)", x.test(0, 3, 1), 0);
        x.walk(0, 1);
        check.due("3 is the first", x.heatOf(3, -1), 1);
        x.jump(0, 1);
        check.due("from a jump: test(0, 1, 3)", x.test(0, 1, 3), 0);
        x.walk(0, 0);
        check.due("3 is the second", x.heatOf(3, -1), 2);
        check.due("of the other function: test(5, 4, 5)", x.test(5, 4, 5), 0);
    }

    private static void leadsToTheSame(Check check) {
        LayoutOptimizer x = Samples.blocks(20, 2, 3);
        check.due("test(0, 0, 0)", x.test(0, 0, 0), 0);
        check.due("without end", x.walk(0, 3), 60);
        check.dueHeat("both edges to itself", x, 0, 60, 2, 57);
        check.due("test(0, 1, 1)", x.test(0, 1, 1), 0);
        check.due("holds", x.walk(0, 1), 2);
        check.due("holds not", x.walk(0, 0), 2);
        check.dueHeat("both edges to 1", x, 0, 62, 1, 1);
        check.due("test(1, 0, 0)", x.test(1, 0, 0), 0);
        check.due("to the entry without end", x.walk(0, 0), 60);
    }

    private static void clearsBothEdges(Check check) {
        LayoutOptimizer x = Samples.twoFunctions();
        x.test(0, 1, 2);
        x.heat(0, 0, 5);
        x.heat(0, 1, 6);
        check.due("to the same blocks again: test(0, 1, 2)", x.test(0, 1, 2), 0);
        check.due("edge 0", x.heatOf(0, 0), 0);
        check.due("edge 1", x.heatOf(0, 1), 0);
        x.heat(0, 1, 8);
        x.jump(0, 3);
        x.heat(0, 0, 7);
        check.due("from a jump: test(0, 3, 3)", x.test(0, 3, 3), 0);
        check.due("edge 0 behind a jump", x.heatOf(0, 0), 0);
        check.due("edge 1 behind a jump", x.heatOf(0, 1), 0);
        check.due("heat starts anew on edge 0", x.heat(0, 0, 1), 1);
        check.due("heat starts anew on edge 1", x.heat(0, 1, 2), 2);
    }

    private static void leavesOtherCounts(Check check) {
        LayoutOptimizer x = Samples.busy();
        x.test(2, 1, 1);
        check.dueHeat("the block", x, 2, 5, 0, 0);
        check.dueHeat("where edge 0 led", x, 3, 2 + 4, 6, LayoutOptimizer.NONE);
        check.due("where edge 1 led", x.heatOf(4, -1), 1);
        check.dueHeat("the block before", x, 1, 3, 2, LayoutOptimizer.NONE);
        check.dueHeat("the entry", x, 0, 6, 3, 5);
    }

    private static void noSuchBlock(Check check) {
        check.due("no blocks: test(0, 0, 0)", new LayoutOptimizer(4).test(0, 0, 0), REFUSED);
        LayoutOptimizer x = Samples.blocks(20, 3, 1);
        int[] none = {-1, 3, 4, 23, 24, Integer.MIN_VALUE, Integer.MAX_VALUE};
        for (int b : none) {
            check.due("test(" + b + ", 0, 0)", x.test(b, 0, 0), REFUSED);
            check.due("test(0, " + b + ", 0)", x.test(0, b, 0), REFUSED);
            check.due("test(0, 0, " + b + ")", x.test(0, 0, b), REFUSED);
            check.due("test(" + b + ", " + b + ", " + b + ")", x.test(b, b, b), REFUSED);
        }
        check.due("test(2, 0, 0)", x.test(2, 0, 0), 0);
        check.due("test(0, 2, 0)", x.test(0, 2, 0), 0);
        check.due("test(0, 0, 2)", x.test(0, 0, 2), 0);
        LayoutOptimizer full = Samples.full();
        check.due("full: test(24, 0, 0)", full.test(24, 0, 0), REFUSED);
        check.due("full: test(0, 24, 0)", full.test(0, 24, 0), REFUSED);
        check.due("full: test(0, 0, 24)", full.test(0, 0, 24), REFUSED);
        check.due("full: test(23, 23, 23)", full.test(23, 23, 23), 0);
    }

    private static void otherFunction(Check check) {
        LayoutOptimizer x = new LayoutOptimizer(20);
        for (int b = 0; b < 8; b++) {
            x.block(b % 4, 1);
        }
        for (int b = 0; b < 4; b++) {
            int own = b + 4;
            for (int y = 0; y < 8; y++) {
                int due = b == y % 4 ? 0 : REFUSED;
                check.due("test(" + b + ", " + y + ", " + own + ")", x.test(b, y, own), due);
                check.due("test(" + b + ", " + own + ", " + y + ")", x.test(b, own, y), due);
                check.due("test(" + b + ", " + y + ", " + y + ")", x.test(b, y, y), due);
            }
        }
    }

    private static void afterLayout(Check check) {
        for (int mode = 0; mode <= 1; mode++) {
            LayoutOptimizer x = Samples.blocks(20, 3, 1);
            x.layout(2);
            check.due("a refused layout is none: test(0, 2, 1)", x.test(0, 2, 1), 0);
            x.layout(mode);
            check.due("laid out: test(0, 1, 2)", x.test(0, 1, 2), REFUSED);
            x.layout(1 - mode);
            x.layout(-1);
            x.cool();
            check.due("ever: test(0, 1, 1)", x.test(0, 1, 1), REFUSED);
            check.due("ever: test(0, 2, 1), as it is", x.test(0, 2, 1), REFUSED);
            check.due("0, 2", x.walk(0, 1), 2);
            check.due("2 is entered", x.heatOf(2, -1), 1);
        }
    }

    private static void refusedChangesNothing(Check check) {
        int[][] wrong = {{-1, 0, 0}, {24, 0, 0}, {0, -1, 0}, {0, 24, 0}, {0, 0, -1}, {0, 0, 24}, {24, 24, 24}};
        for (int[] w : wrong) {
            Unchanged.dueInEveryState(check, told(w), REFUSED, x -> x.test(w[0], w[1], w[2]));
        }
        int[][] wrongWhenBusy = {{7, 0, 0}, {0, 7, 1}, {0, 1, 7}, {0, 5, 1}, {0, 1, 5}, {5, 0, 6}, {5, 6, 0},
            {1, 2, 6}, {3, 6, 2}, {6, 4, 5}};
        dueUnchanged(check, "busy", Samples::busy, wrongWhenBusy);
        int[][] wrongWhenLaidOut = {{0, 2, 1}, {1, 3, 3}, {2, 3, 4}, {4, 0, 0}, {6, 5, 6}};
        dueUnchanged(check, "laid out by number", () -> Samples.busyLaidOut(0), wrongWhenLaidOut);
        dueUnchanged(check, "laid out by chains", () -> Samples.busyLaidOut(1), wrongWhenLaidOut);
    }

    private static void dueUnchanged(Check check, String when, Supplier<LayoutOptimizer> state, int[][] wrong) {
        for (int[] w : wrong) {
            Unchanged.due(check, when + ": " + told(w), REFUSED, state, x -> x.test(w[0], w[1], w[2]));
        }
    }

    private static String told(int[] w) {
        return "test(" + w[0] + ", " + w[1] + ", " + w[2] + ")";
    }
}

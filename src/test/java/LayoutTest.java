/** Promise 8: its own words; PlacingTest and BranchTest hold the class to the terms that they use. */
public final class LayoutTest {
    private static final int REFUSED = LayoutOptimizer.REFUSED;
    private static final int NONE = LayoutOptimizer.NONE;

    public static void main(String[] args) {
        Check check = new Check("Promise 8, layout");
        check.test("A LAYOUT is made in mode 0 or 1", LayoutTest::modes);
        check.test("by the counts as they are", LayoutTest::byTheCounts);
        check.test("its length in units", LayoutTest::lengths);
        check.test("RETURN: one unit; BRANCHES one unit or two", LayoutTest::unitsOfBranches);
        check.test("No blocks: REFUSED", LayoutTest::noBlocks);
        check.test("There is none before the first layout call", LayoutTest::noneBefore);
        check.test("a LAYOUT takes the place of the one before", LayoutTest::madeAnew);
        check.test("counts and ENDs stay", LayoutTest::leavesTheRest);
        check.test("a refused call changes nothing", LayoutTest::refusedChangesNothing);
        check.end();
    }

    private static void modes(Check check) {
        for (int mode : new int[] {-1, 2, 3, Integer.MIN_VALUE, Integer.MAX_VALUE}) {
            LayoutOptimizer x = Samples.busy();
            check.due("layout(" + mode + ")", x.layout(mode), REFUSED);
            check.due("layout(" + mode + "): at(0)", x.at(0), NONE);
            check.due("layout(" + mode + "): count(1)", x.count(1), 0);
        }
        LayoutOptimizer y = Samples.diamond(400);
        y.heat(0, 1, 1);
        check.due("layout(0)", y.layout(0), 68);
        check.dueOrder("by number", y, 0, 1, 2, 3);
        check.due("layout(1)", y.layout(1), 68);
        check.dueOrder("by chains", y, 0, 2, 1, 3);
    }

    private static void byTheCounts(Check check) {
        LayoutOptimizer x = Samples.diamond(400);
        x.heat(0, 1, 2);
        x.layout(1);
        check.dueOrder("0 to 2 is taken", x, 0, 2, 1, 3);
        x.heat(1, 0, 3);
        x.heat(0, 0, 3);
        check.dueOrder("more heat changes no layout", x, 0, 2, 1, 3);
        x.layout(1);
        check.dueOrder("the next goes by it", x, 0, 1, 3, 2);
        x.walk(0, 0);
        x.walk(0, 0);
        check.dueOrder("walks change no layout", x, 0, 1, 3, 2);
        x.layout(1);
        check.dueOrder("the next goes by them", x, 0, 2, 1, 3);
    }

    private static void lengths(Check check) {
        check.due("one block of 1", Samples.blocks(4, 1, 1).layout(0), 2);
        check.due("one block of 40", Samples.blocks(4, 1, 40).layout(1), 41);
        check.due("24 blocks of 1", Samples.blocks(4, 24, 1).layout(1), 24 * 2);
        check.due("24 blocks of 40", Samples.blocks(4, 24, 40).layout(0), 24 * 41);
        // Every block has two branches that go over more than 4 units.
        LayoutOptimizer x = Samples.blocks(4, 24, 40);
        for (int b = 0; b < 24; b++) {
            x.test(b, b, (b + 12) % 24);
        }
        check.due("the most there can be", x.layout(0), 24 * 44);
        // Every block jumps to the next, and the last to itself.
        LayoutOptimizer y = Samples.blocks(4, 24, 1);
        for (int b = 0; b < 24; b++) {
            y.jump(b, Math.min(b + 1, 23));
        }
        check.due("the least of 24 blocks", y.layout(0), 25);
    }

    private static void unitsOfBranches(Check check) {
        check.due("31 reaches all", Samples.diamond(31).layout(0), 68);
        check.due("30 misses one", Samples.diamond(30).layout(0), 69);
        check.due("23 misses one", Samples.diamond(23).layout(0), 69);
        check.due("22 misses one and then, since that grew, the other", Samples.diamond(22).layout(0), 70);
        check.due("21 misses both", Samples.diamond(21).layout(0), 70);
        check.due("two branches of one block, short", Samples.fork(5).layout(0), 9);
        check.due("two branches of one block, long", Samples.fork(4).layout(0), 11);
    }

    private static void noBlocks(Check check) {
        LayoutOptimizer x = new LayoutOptimizer(22);
        check.due("layout(0)", x.layout(0), REFUSED);
        check.due("layout(1)", x.layout(1), REFUSED);
        check.due("layout(2)", x.layout(2), REFUSED);
        check.due("that was none", x.block(3, 1), 0);
        check.due("one block: layout(1)", x.layout(1), 2);
        check.dueOrder("one block", x, 0);
    }

    private static void noneBefore(Check check) {
        LayoutOptimizer x = Samples.diamond(22);
        check.due("before: at(0)", x.at(0), NONE);
        check.due("before: address(0)", x.address(0), NONE);
        check.due("before: branch(0, 0)", x.branch(0, 0), NONE);
        check.due("before: target(0, 0)", x.target(0, 0), NONE);
        check.due("before: cost(0, 0)", x.cost(0, 0), REFUSED);
        check.due("before: count(5)", x.count(5), 0);
        check.due("layout(0)", x.layout(0), 70);
        check.due("after: at(0)", x.at(0), 0);
        check.due("after: address(0)", x.address(0), 0);
        check.due("after: branch(0, 0)", x.branch(0, 0), LayoutOptimizer.LONG);
        check.due("after: target(0, 0)", x.target(0, 0), 2);
        check.due("after: cost(0, 0)", x.cost(0, 0), 4);
        check.due("after: count(5)", x.count(5), 4);
    }

    /** Chains of a layout by chains, and branches grown long, are not there in the next. */
    private static void madeAnew(Check check) {
        LayoutOptimizer x = Samples.diamond(36);
        x.heat(0, 1, 1);
        x.heat(2, 0, 1);
        for (int k = 0; k < 3; k++) {
            // 0, 2, 3, 1: 0 branches to 1 from 10 to 47, 1 to 3 from 67 to 41, and then from 68 to 42.
            check.due("layout(1)", x.layout(1), 69);
            check.dueOrder("by chains", x, 0, 2, 3, 1);
            check.due("by chains: long ones", x.count(3), 1);
            check.due("layout(0)", x.layout(0), 68);
            check.dueOrder("by number", x, 0, 1, 2, 3);
            check.due("by number: long ones", x.count(3), 0);
        }
        for (int k = 0; k < 3; k++) {
            check.due("layout(1) again", x.layout(1), 69);
            check.due("by chains again: chains", x.count(5), 2);
        }
    }

    private static void leavesTheRest(Check check) {
        LayoutOptimizer x = Samples.busy();
        x.layout(1);
        x.layout(0);
        check.dueHeat("the entry", x, 0, 6, 3, 5);
        check.dueHeat("a jump", x, 3, 6, 6, NONE);
        check.dueHeat("a test", x, 2, 5, 4, 1);
        check.dueHeat("a return", x, 6, 7, NONE, NONE);
        check.due("0 2 4", x.walk(0, 0), 3);
        check.due("count(0)", x.count(0), 7);
    }

    private static void refusedChangesNothing(Check check) {
        for (int mode : new int[] {-1, 2, Integer.MIN_VALUE, Integer.MAX_VALUE}) {
            Unchanged.dueInEveryState(check, "layout(" + mode + ")", REFUSED, x -> x.layout(mode));
        }
        Unchanged.due(check, "new: layout(0)", REFUSED, () -> new LayoutOptimizer(22), x -> x.layout(0));
        Unchanged.due(check, "new: layout(1)", REFUSED, () -> new LayoutOptimizer(22), x -> x.layout(1));
    }
}

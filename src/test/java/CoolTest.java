/** Promise 7. */
public final class CoolTest {
    private static final int NONE = LayoutOptimizer.NONE;

    public static void main(String[] args) {
        Check check = new Check("Promise 7, cool");
        check.test("All counts become 0: 0, with no blocks", CoolTest::ofNothing);
        check.test("All counts become 0: 0, of 24 blocks with all edges", CoolTest::clearsAll);
        check.test("All counts become 0: 0, from 1 and from 1000000", CoolTest::clearsEdges);
        check.test("blocks and ENDs stay", CoolTest::leavesEnds);
        check.test("a LAYOUT stays, and the next goes by the counts as they are", CoolTest::leavesLayout);
        check.end();
    }

    private static void ofNothing(Check check) {
        LayoutOptimizer x = new LayoutOptimizer(4);
        check.due("cool()", x.cool(), 0);
        check.due("count(0)", x.count(0), 0);
        check.due("block(0, 1)", x.block(0, 1), 0);
        Unchanged.due(check, "new: cool()", 0, () -> new LayoutOptimizer(22), LayoutOptimizer::cool);
        Unchanged.due(check, "counts 0: cool()", 0, () -> Samples.diamond(22), LayoutOptimizer::cool);
    }

    private static void clearsAll(Check check) {
        LayoutOptimizer x = Samples.blocks(20, 24, 1);
        for (int b = 0; b < 24; b++) {
            x.test(b, (b + 1) % 24, b);
            x.heat(b, 0, 5);
            x.heat(b, 1, 6);
        }
        check.dueHeat("before", x, 23, 11, 5, 6);
        check.due("cool()", x.cool(), 0);
        for (int b = 0; b < 24; b++) {
            check.dueHeat("cooled", x, b, 0, 0, 0);
        }
        check.due("heat starts anew", x.heat(23, 1, 2), 2);
        check.dueHeat("anew", x, 23, 2, 0, 2);
    }

    private static void clearsEdges(Check check) {
        LayoutOptimizer x = Samples.diamond(20);
        x.heat(0, 0, 1);
        for (int k = 0; k < 11; k++) {
            x.heat(2, 0, 100000);
        }
        check.due("cool()", x.cool(), 0);
        check.dueHeat("from 1", x, 0, 0, 0, 0);
        check.dueHeat("where it leads", x, 1, 0, 0, NONE);
        check.dueHeat("from the most", x, 2, 0, 0, NONE);
        check.dueHeat("where that leads", x, 3, 0, NONE, NONE);
        check.due("cool() again", x.cool(), 0);
        check.dueHeat("again", x, 2, 0, 0, NONE);
        x.walk(0, 0);
        check.dueHeat("a walk counts from 0", x, 2, 1, 1, NONE);
    }

    private static void leavesEnds(Check check) {
        LayoutOptimizer x = Samples.busy();
        x.cool();
        check.due("count(0)", x.count(0), 7);
        check.due("0 2 4", x.walk(0, 0), 3);
        check.due("0 1 3 0 2 4", x.walk(0, 1), 6);
        check.due("5 6", x.walk(2, 0), 2);
        check.due("a new block", x.block(1, 1), 7);
    }

    private static void leavesLayout(Check check) {
        LayoutOptimizer x = Samples.diamond(20);
        x.heat(0, 1, 9);
        x.heat(2, 0, 9);
        int length = x.layout(1);
        check.dueOrder("hot", x, 0, 2, 3, 1);
        check.due("cool()", x.cool(), 0);
        check.due("the length stays", x.count(1), length);
        check.due("cold blocks stay", x.count(4), 1);
        check.due("chains stay", x.count(5), 2);
        check.dueOrder("cooled", x, 0, 2, 3, 1);
        check.due("no block more", x.block(0, 1), LayoutOptimizer.REFUSED);
        x.layout(1);
        check.dueOrder("laid out cold", x, 0, 1, 2, 3);
        check.due("all but the entry are cold", x.count(4), 3);
        check.due("each is a chain", x.count(5), 4);
    }
}

/** Promise 9. */
public final class AtTest {
    private static final int NONE = LayoutOptimizer.NONE;
    private static final int[] FAR = {-2, 23, 24, 25, 48, Integer.MIN_VALUE, Integer.MAX_VALUE};

    public static void main(String[] args) {
        Check check = new Check("Promise 9, at");
        check.test("The block at place k, from 0, of the LAYOUT", AtTest::places);
        check.test("NONE if there is none: no such place", AtTest::noSuchPlace);
        check.test("NONE if there is none: no LAYOUT", AtTest::noLayout);
        check.test("a call that answers NONE changes nothing", AtTest::changesNothing);
        check.end();
    }

    private static void places(Check check) {
        LayoutOptimizer x = Samples.diamond(20);
        x.heat(0, 1, 1);
        x.heat(2, 0, 1);
        x.layout(1);
        check.dueOrder("by chains", x, 0, 2, 3, 1);
        x.layout(0);
        check.dueOrder("by number", x, 0, 1, 2, 3);
    }

    private static void noSuchPlace(Check check) {
        LayoutOptimizer x = Samples.diamond(20);
        x.layout(0);
        check.due("at(-1)", x.at(-1), NONE);
        check.due("at(0)", x.at(0), 0);
        check.due("at(3)", x.at(3), 3);
        check.due("at(4)", x.at(4), NONE);
        for (int k : FAR) {
            check.due("at(" + k + ")", x.at(k), NONE);
        }
        LayoutOptimizer one = Samples.blocks(4, 1, 1);
        one.layout(1);
        check.dueOrder("one block", one, 0);
        LayoutOptimizer full = Samples.blocks(4, 24, 1);
        full.layout(0);
        check.due("24 blocks: at(22)", full.at(22), 22);
        check.due("24 blocks: at(23)", full.at(23), 23);
        check.due("24 blocks: at(24)", full.at(24), NONE);
    }

    private static void noLayout(Check check) {
        LayoutOptimizer x = new LayoutOptimizer(20);
        check.due("new: at(0)", x.at(0), NONE);
        x.block(0, 1);
        check.due("a block: at(0)", x.at(0), NONE);
        x.layout(2);
        check.due("a refused layout: at(0)", x.at(0), NONE);
        x.layout(0);
        check.due("a layout: at(0)", x.at(0), 0);
        x.layout(2);
        check.due("a refused layout behind it: at(0)", x.at(0), 0);
    }

    private static void changesNothing(Check check) {
        Unchanged.dueInEveryState(check, "at(-1)", NONE, x -> x.at(-1));
        Unchanged.dueInEveryState(check, "at(24)", NONE, x -> x.at(24));
        Unchanged.due(check, "busy: at(0)", NONE, Samples::busy, x -> x.at(0));
    }
}

/** Promise 10. */
public final class AddressTest {
    private static final int NONE = LayoutOptimizer.NONE;
    private static final int[] FAR = {-2, 23, 24, 25, 48, Integer.MIN_VALUE, Integer.MAX_VALUE};

    public static void main(String[] args) {
        Check check = new Check("Promise 10, address");
        check.test("The ADDRESS of a block: the number of units before", AddressTest::unitsBefore);
        check.test("with branches SHORT and LONG", AddressTest::branches);
        check.test("in the LAYOUT, not by number", AddressTest::inTheLayout);
        check.test("of the first block, and of the last of 24", AddressTest::firstAndLast);
        check.test("NONE without a LAYOUT", AddressTest::noLayout);
        check.test("NONE for no such block", AddressTest::noSuchBlock);
        check.test("a call that answers NONE changes nothing", AddressTest::changesNothing);
        check.end();
    }

    private static void due(Check check, String when, LayoutOptimizer x, int... starts) {
        for (int b = 0; b < starts.length; b++) {
            check.due(when + ": address(" + b + ")", x.address(b), starts[b]);
        }
    }

    private static void unitsBefore(Check check) {
        LayoutOptimizer x = Samples.bodies(50, 1, 40, 7, 2);
        x.jump(1, 2);
        x.jump(2, 0);
        x.layout(0);
        due(check, "a return, nothing, a branch", x, 0, 1 + 1, 2 + 40, 42 + 7 + 1);
    }

    private static void branches(Check check) {
        LayoutOptimizer x = Samples.diamond(400);
        x.layout(0);
        due(check, "both branches short", x, 0, 11, 32, 62);
        LayoutOptimizer y = Samples.diamond(30);
        y.layout(0);
        due(check, "one branch long", y, 0, 11, 33, 63);
        LayoutOptimizer z = Samples.diamond(22);
        z.layout(0);
        due(check, "both branches long", z, 0, 12, 34, 64);
        LayoutOptimizer fork = Samples.fork(5);
        fork.layout(0);
        due(check, "two short branches of one block, and returns", fork, 0, 3, 5, 7);
        LayoutOptimizer far = Samples.fork(4);
        far.layout(0);
        due(check, "two long branches of one block, and returns", far, 0, 5, 7, 9);
    }

    private static void inTheLayout(Check check) {
        LayoutOptimizer x = Samples.diamond(22);
        x.heat(0, 1, 1);
        x.heat(2, 0, 1);
        x.layout(1);
        // 0, 2, 3, 1: 0 branches to 1 over 37 units, 1 branches to 3 over 27.
        due(check, "by chains", x, 0, 48, 12, 42);
        x.layout(0);
        due(check, "by number", x, 0, 12, 34, 64);
    }

    private static void firstAndLast(Check check) {
        LayoutOptimizer one = Samples.blocks(4, 1, 40);
        one.layout(1);
        due(check, "one block", one, 0, NONE);
        LayoutOptimizer full = Samples.blocks(4, 24, 40);
        full.layout(0);
        check.due("24 blocks: address(0)", full.address(0), 0);
        check.due("24 blocks: address(22)", full.address(22), 22 * 41);
        check.due("24 blocks: address(23)", full.address(23), 23 * 41);
        check.due("24 blocks: address(24)", full.address(24), NONE);
    }

    private static void noLayout(Check check) {
        LayoutOptimizer x = new LayoutOptimizer(20);
        check.due("new: address(0)", x.address(0), NONE);
        x.block(0, 1);
        check.due("a block: address(0)", x.address(0), NONE);
        x.layout(-1);
        check.due("a refused layout: address(0)", x.address(0), NONE);
        x.layout(1);
        check.due("a layout: address(0)", x.address(0), 0);
        x.layout(-1);
        check.due("a refused layout behind it: address(0)", x.address(0), 0);
    }

    private static void noSuchBlock(Check check) {
        LayoutOptimizer x = Samples.diamond(400);
        x.layout(0);
        check.due("address(-1)", x.address(-1), NONE);
        check.due("address(0)", x.address(0), 0);
        check.due("address(3)", x.address(3), 62);
        check.due("address(4)", x.address(4), NONE);
        for (int b : FAR) {
            check.due("address(" + b + ")", x.address(b), NONE);
        }
    }

    private static void changesNothing(Check check) {
        Unchanged.dueInEveryState(check, "address(-1)", NONE, x -> x.address(-1));
        Unchanged.dueInEveryState(check, "address(24)", NONE, x -> x.address(24));
        Unchanged.due(check, "busy: address(0)", NONE, Samples::busy, x -> x.address(0));
    }
}

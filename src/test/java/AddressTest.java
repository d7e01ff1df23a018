/** Promise 10. */
public final class AddressTest {
    public static void main(String[] args) {
        Check check = new Check();
        LayoutOptimizer x = Samples.diamond(22);
        check.due("no layout: address(0)", x.address(0), LayoutOptimizer.NONE);
        x.layout(0);
        due(check, "both branches long", x, 0, 12, 34, 64);
        x.heat(0, 1, 1);
        x.heat(2, 0, 1);
        x.layout(1);
        // 0, 2, 3, 1: 0 branches to 1 over 37 units, 1 branches to 3 over 27.
        due(check, "by chains", x, 0, 48, 12, 42);
        for (int block : new int[] {-1, 4, 23, 24, Integer.MIN_VALUE, Integer.MAX_VALUE}) {
            check.due("address(" + block + ")", x.address(block), LayoutOptimizer.NONE);
        }
        LayoutOptimizer y = Samples.diamond(400);
        y.layout(0);
        due(check, "both branches short", y, 0, 11, 32, 62);
        LayoutOptimizer fork = Samples.fork(4);
        fork.layout(0);
        due(check, "two long branches of one block, and returns", fork, 0, 5, 7, 9);
        LayoutOptimizer full = Samples.blocks(4, 24, 40);
        full.layout(0);
        check.due("address(23)", full.address(23), 23 * 41);
        check.due("address(24)", full.address(24), LayoutOptimizer.NONE);
        check.end();
    }

    private static void due(Check check, String when, LayoutOptimizer x, int... starts) {
        for (int b = 0; b < starts.length; b++) {
            check.due(when + ": address(" + b + ")", x.address(b), starts[b]);
        }
    }
}

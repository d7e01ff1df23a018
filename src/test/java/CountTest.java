/** Promise 15. */
public final class CountTest {
    public static void main(String[] args) {
        Check check = new Check();
        LayoutOptimizer x = Samples.diamond(30);
        due(check, "no layout", x, 4, 0, 0, 0, 0, 0);
        x.layout(0);
        due(check, "by number", x, 4, 69, 2, 1, 0, 4);
        x.layout(1);
        due(check, "by chains, all but the entry cold", x, 4, 69, 2, 1, 3, 4);
        x.heat(0, 1, 1);
        x.heat(2, 0, 1);
        due(check, "heat changes no layout", x, 4, 69, 2, 1, 3, 4);
        x.layout(1);
        due(check, "by chains", x, 4, 69, 2, 1, 1, 2);
        x.layout(9);
        due(check, "a refused layout", x, 4, 69, 2, 1, 1, 2);
        x.layout(0);
        due(check, "by number again", x, 4, 69, 2, 1, 0, 4);
        for (int what : new int[] {-1, 6, Integer.MIN_VALUE, Integer.MAX_VALUE}) {
            check.due("count(" + what + ")", x.count(what), LayoutOptimizer.REFUSED);
            check.due("new: count(" + what + ")", new LayoutOptimizer(4).count(what), LayoutOptimizer.REFUSED);
        }
        LayoutOptimizer fork = Samples.fork(4);
        fork.layout(0);
        due(check, "two of one block", fork, 4, 11, 2, 2, 0, 4);
        LayoutOptimizer full = Samples.blocks(4, 24, 40);
        full.layout(1);
        due(check, "24 returns", full, 24, 24 * 41, 0, 0, 23, 24);
        check.end();
    }

    private static void due(Check check, String when, LayoutOptimizer x, int... counts) {
        for (int what = 0; what < counts.length; what++) {
            check.due(when + ": count(" + what + ")", x.count(what), counts[what]);
        }
    }
}

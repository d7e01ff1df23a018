/** Promise 9. */
public final class AtTest {
    public static void main(String[] args) {
        Check check = new Check();
        LayoutOptimizer x = Samples.diamond(20);
        check.due("no layout: at(0)", x.at(0), LayoutOptimizer.NONE);
        x.layout(3);
        check.due("a refused layout: at(0)", x.at(0), LayoutOptimizer.NONE);
        x.heat(0, 1, 1);
        x.heat(2, 0, 1);
        x.layout(1);
        check.dueOrder("by chains", x, 0, 2, 3, 1);
        x.layout(0);
        check.dueOrder("by number", x, 0, 1, 2, 3);
        for (int k : new int[] {-1, 4, 5, 23, 24, 25, Integer.MIN_VALUE, Integer.MAX_VALUE}) {
            check.due("at(" + k + ")", x.at(k), LayoutOptimizer.NONE);
        }
        LayoutOptimizer full = Samples.blocks(4, 24, 1);
        full.layout(0);
        check.due("at(23)", full.at(23), 23);
        check.due("at(24)", full.at(24), LayoutOptimizer.NONE);
        check.end();
    }
}

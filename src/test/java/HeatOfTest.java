/** Promise 14. */
public final class HeatOfTest {
    private static final int NONE = LayoutOptimizer.NONE;

    public static void main(String[] args) {
        Check check = new Check();
        LayoutOptimizer x = Samples.diamond(20);
        due(check, "new", x, 0, 0, 0, 0);
        x.heat(0, 0, 3);
        x.heat(0, 1, 4);
        x.heat(1, 0, 50);
        due(check, "a test", x, 0, 0, 3, 4);
        due(check, "a jump", x, 1, 3, 50, NONE);
        due(check, "a jump without heat", x, 2, 4, 0, NONE);
        due(check, "a return", x, 3, 50, NONE, NONE);
        x.layout(1);
        x.heat(2, 0, 6);
        due(check, "behind a layout", x, 2, 4, 6, NONE);
        for (int block : new int[] {-1, 4, 23, 24, Integer.MIN_VALUE, Integer.MAX_VALUE}) {
            due(check, "no such block", x, block, NONE, NONE, NONE);
        }
        for (int e : new int[] {-2, 2, Integer.MIN_VALUE, Integer.MAX_VALUE}) {
            check.due("heatOf(0, " + e + ")", x.heatOf(0, e), NONE);
        }
        check.end();
    }

    private static void due(Check check, String when, LayoutOptimizer x, int block, int own, int first, int second) {
        check.due(when + ": heatOf(" + block + ", -1)", x.heatOf(block, -1), own);
        check.due(when + ": heatOf(" + block + ", 0)", x.heatOf(block, 0), first);
        check.due(when + ": heatOf(" + block + ", 1)", x.heatOf(block, 1), second);
    }
}

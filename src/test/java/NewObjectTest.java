/** Promise 1. */
public final class NewObjectTest {
    public static void main(String[] args) {
        Check check = new Check();
        isEmpty(check);
        clampsBelow(check);
        clampsAbove(check);
        check.end();
    }

    private static void isEmpty(Check check) {
        LayoutOptimizer x = new LayoutOptimizer(20);
        for (int what = 0; what <= 5; what++) {
            check.due("new: count(" + what + ")", x.count(what), 0);
        }
        check.due("new: at(0)", x.at(0), LayoutOptimizer.NONE);
        check.due("new: address(0)", x.address(0), LayoutOptimizer.NONE);
        check.due("new: heatOf(0, -1)", x.heatOf(0, -1), LayoutOptimizer.NONE);
        check.due("new: layout(0)", x.layout(0), LayoutOptimizer.REFUSED);
        check.due("new: block(0, 1)", x.block(0, 1), 0);
        check.due("with a block: at(0)", x.at(0), LayoutOptimizer.NONE);
    }

    private static void clampsBelow(Check check) {
        for (int range : new int[] {Integer.MIN_VALUE, -5, 0, 3, 4}) {
            check.due("range " + range + " over 4", backOver(4, range), LayoutOptimizer.SHORT);
            check.due("range " + range + " over 5", backOver(5, range), LayoutOptimizer.LONG);
        }
        check.due("range 5 over 5", backOver(5, 5), LayoutOptimizer.SHORT);
        check.due("range 5 over 6", backOver(6, 5), LayoutOptimizer.LONG);
    }

    private static void clampsAbove(Check check) {
        for (int range : new int[] {400, 401, 1000, Integer.MAX_VALUE}) {
            check.due("range " + range + " over 400", backOver(400, range), LayoutOptimizer.SHORT);
            check.due("range " + range + " over 401", backOver(401, range), LayoutOptimizer.LONG);
        }
        check.due("range 399 over 399", backOver(399, 399), LayoutOptimizer.SHORT);
        check.due("range 399 over 400", backOver(400, 399), LayoutOptimizer.LONG);
    }

    /** What the branch becomes that goes from the last block's end back to the start over as many units. */
    private static int backOver(int units, int range) {
        LayoutOptimizer x = new LayoutOptimizer(range);
        int last = -1;
        for (int left = units; left > 0; left -= 40) {
            int made = x.block(1, Math.min(40, left));
            if (last >= 0) {
                x.jump(last, made);
            }
            last = made;
        }
        x.jump(last, 0);
        x.layout(0);
        return x.branch(last, 0);
    }
}

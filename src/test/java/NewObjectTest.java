/** Promise 1. */
public final class NewObjectTest {
    private static final int REFUSED = LayoutOptimizer.REFUSED;
    private static final int NONE = LayoutOptimizer.NONE;
    private static final int SHORT = LayoutOptimizer.SHORT;
    private static final int LONG = LayoutOptimizer.LONG;

    public static void main(String[] args) {
        Check check = new Check("Promise 1, A new object");
        check.test("RANGE, clamped to 4 ..", NewObjectTest::clampsBelow);
        check.test("RANGE, clamped to .. 400", NewObjectTest::clampsAbove);
        check.test("RANGE between is as told", NewObjectTest::keepsBetween);
        check.test("No blocks", NewObjectTest::noBlocks);
        check.test("no LAYOUT", NewObjectTest::noLayout);
        check.test("no other object's blocks, counts or LAYOUT", NewObjectTest::ofItsOwn);
        check.end();
    }

    private static void clampsBelow(Check check) {
        for (int range : new int[] {3, 4, 2, 0, -1, -4, -400, Integer.MIN_VALUE}) {
            check.due("range " + range + " over 3", backOver(3, range), SHORT);
            check.due("range " + range + " over 4", backOver(4, range), SHORT);
            check.due("range " + range + " over 5", backOver(5, range), LONG);
        }
        check.due("range 5 over 5", backOver(5, 5), SHORT);
        check.due("range 5 over 6", backOver(6, 5), LONG);
    }

    private static void clampsAbove(Check check) {
        for (int range : new int[] {400, 401, 402, 1000, Integer.MAX_VALUE}) {
            check.due("range " + range + " over 399", backOver(399, range), SHORT);
            check.due("range " + range + " over 400", backOver(400, range), SHORT);
            check.due("range " + range + " over 401", backOver(401, range), LONG);
        }
        check.due("range 399 over 399", backOver(399, 399), SHORT);
        check.due("range 399 over 400", backOver(400, 399), LONG);
    }

    private static void keepsBetween(Check check) {
        for (int range : new int[] {5, 6, 39, 40, 41, 127, 128, 255, 256, 398}) {
            check.due("range " + range + ", one less", backOver(range - 1, range), SHORT);
            check.due("range " + range + ", as many", backOver(range, range), SHORT);
            check.due("range " + range + ", one more", backOver(range + 1, range), LONG);
        }
    }

    /** What the branch becomes that goes from the last block's end back to the start over as many units. */
    private static int backOver(int units, int range) {
        LayoutOptimizer x = new LayoutOptimizer(range);
        int last = -1;
        for (int left = units; left > 0; left -= 40) {
            int made = x.block(1, Math.min(40, left));
            if (last >= 0) {
                x.jump(last, made);
            }
            last = made;
        }
        x.jump(last, 0);
        x.layout(0);
        return x.branch(last, 0);
    }

    private static void noBlocks(Check check) {
        LayoutOptimizer x = new LayoutOptimizer(20);
        check.due("count(0)", x.count(0), 0);
        check.due("layout(0)", x.layout(0), REFUSED);
        check.due("layout(1)", x.layout(1), REFUSED);
        for (int f = 0; f <= 3; f++) {
            check.due("walk(" + f + ", 0)", x.walk(f, 0), REFUSED);
        }
        check.due("jump(0, 0)", x.jump(0, 0), REFUSED);
        check.due("test(0, 0, 0)", x.test(0, 0, 0), REFUSED);
        check.due("heat(0, 0, 1)", x.heat(0, 0, 1), REFUSED);
        check.dueHeat("no block 0", x, 0, NONE, NONE, NONE);
        check.due("the first block", x.block(0, 1), 0);
        check.due("then: count(0)", x.count(0), 1);
    }

    private static void noLayout(Check check) {
        dueNoLayout(check, "new", new LayoutOptimizer(20));
        LayoutOptimizer x = Samples.busy();
        dueNoLayout(check, "with blocks", x);
        check.due("no layout was made yet", x.block(0, 1), 7);
    }

    private static void dueNoLayout(Check check, String when, LayoutOptimizer x) {
        for (int what = 1; what <= 5; what++) {
            check.due(when + ": count(" + what + ")", x.count(what), 0);
        }
        for (int f = 0; f <= 3; f++) {
            check.due(when + ": cost(" + f + ", 0)", x.cost(f, 0), REFUSED);
        }
        for (int b = 0; b < 8; b++) {
            check.due(when + ": at(" + b + ")", x.at(b), NONE);
            check.due(when + ": address(" + b + ")", x.address(b), NONE);
            for (int i = 0; i <= 1; i++) {
                check.due(when + ": branch(" + b + ", " + i + ")", x.branch(b, i), NONE);
                check.due(when + ": target(" + b + ", " + i + ")", x.target(b, i), NONE);
            }
        }
    }

    private static void ofItsOwn(Check check) {
        LayoutOptimizer other = Samples.busyLaidOut(1);
        LayoutOptimizer x = new LayoutOptimizer(400);
        check.due("count(0)", x.count(0), 0);
        dueNoLayout(check, "beside another", x);
        x.block(0, 1);
        x.jump(0, 0);
        check.dueHeat("beside another", x, 0, 0, 0, NONE);
        check.due("the other's blocks", other.count(0), 7);
        check.due("the other's count", other.heatOf(5, 0), 7);
    }
}

/** Promise 2. */
public final class BlockTest {
    private static final int REFUSED = LayoutOptimizer.REFUSED;
    private static final int FULL = LayoutOptimizer.FULL;
    private static final int NONE = LayoutOptimizer.NONE;

    public static void main(String[] args) {
        Check check = new Check("Promise 2, block");
        check.test("BLOCKS are numbered 0, 1, .. as they are made", BlockTest::numbers);
        check.test("of function f 0 .. 3", BlockTest::functions);
        check.test("with a body of 1 .. 40", BlockTest::bodies);
        check.test("at most 24; 24 blocks: FULL", BlockTest::full);
        check.test("FULL changes nothing", BlockTest::fullChangesNothing);
        check.test("24 blocks and a number out of its range: REFUSED", BlockTest::fullAndWrong);
        check.test("A LAYOUT was made, ever: REFUSED", BlockTest::afterLayout);
        check.test("A LAYOUT was made, ever, and 24 blocks: REFUSED", BlockTest::fullAfterLayout);
        check.test("A block that has been given no END has RETURN", BlockTest::startsWithReturn);
        check.test("a refused call changes nothing", BlockTest::refusedChangesNothing);
        check.end();
    }

    private static void numbers(Check check) {
        LayoutOptimizer x = new LayoutOptimizer(20);
        check.due("of function 3", x.block(3, 40), 0);
        check.due("of function 0", x.block(0, 1), 1);
        check.due("refused, so it takes no number", x.block(0, 41), REFUSED);
        check.due("of function 3 again", x.block(3, 7), 2);
        check.due("of function 1", x.block(1, 9), 3);
        check.due("count(0)", x.count(0), 4);
    }

    private static void functions(Check check) {
        LayoutOptimizer x = new LayoutOptimizer(20);
        check.due("block(-1, 5)", x.block(-1, 5), REFUSED);
        check.due("block(0, 5)", x.block(0, 5), 0);
        check.due("block(1, 5)", x.block(1, 5), 1);
        check.due("block(2, 5)", x.block(2, 5), 2);
        check.due("block(3, 5)", x.block(3, 5), 3);
        check.due("block(4, 5)", x.block(4, 5), REFUSED);
        check.due("block(MIN, 5)", x.block(Integer.MIN_VALUE, 5), REFUSED);
        check.due("block(MAX, 5)", x.block(Integer.MAX_VALUE, 5), REFUSED);
        for (int f = 0; f <= 3; f++) {
            check.due("walk(" + f + ", 0)", x.walk(f, 0), 1);
            check.due("the block of function " + f, x.heatOf(f, -1), 1);
        }
        check.due("0 and 1 are of different functions", x.jump(0, 1), REFUSED);
        check.due("2 and 3 are of different functions", x.jump(2, 3), REFUSED);
    }

    private static void bodies(Check check) {
        LayoutOptimizer x = new LayoutOptimizer(20);
        int[] wrong = {0, -1, 41, 42, Integer.MIN_VALUE, Integer.MAX_VALUE};
        for (int body : wrong) {
            check.due("block(0, " + body + ")", x.block(0, body), REFUSED);
        }
        int[] right = {1, 2, 39, 40};
        for (int k = 0; k < right.length; k++) {
            check.due("block(0, " + right[k] + ")", x.block(0, right[k]), k);
        }
        // Behind each body stands the unit of a RETURN.
        check.due("layout(0)", x.layout(0), 1 + 2 + 39 + 40 + 4);
        check.due("address(1), behind a body of 1", x.address(1), 2);
        check.due("address(2), behind a body of 2", x.address(2), 5);
        check.due("address(3), behind a body of 39", x.address(3), 45);
    }

    private static void full(Check check) {
        LayoutOptimizer x = new LayoutOptimizer(20);
        for (int b = 0; b < 24; b++) {
            check.due("block number " + b, x.block(b % 4, 1 + b), b);
            check.due("count(0)", x.count(0), b + 1);
        }
        check.due("25th", x.block(0, 1), FULL);
        check.due("26th", x.block(3, 40), FULL);
        check.due("count(0)", x.count(0), 24);
    }

    private static void fullChangesNothing(Check check) {
        for (int f = 0; f <= 3; f++) {
            int function = f;
            Unchanged.due(check, "full: block(" + f + ", 40)", FULL, Samples::full, x -> x.block(function, 40));
        }
    }

    private static void fullAndWrong(Check check) {
        LayoutOptimizer x = Samples.full();
        check.due("block(0, 0)", x.block(0, 0), REFUSED);
        check.due("block(0, 1)", x.block(0, 1), FULL);
        check.due("block(0, 40)", x.block(0, 40), FULL);
        check.due("block(0, 41)", x.block(0, 41), REFUSED);
        check.due("block(-1, 1)", x.block(-1, 1), REFUSED);
        check.due("block(3, 1)", x.block(3, 1), FULL);
        check.due("block(4, 1)", x.block(4, 1), REFUSED);
    }

    private static void afterLayout(Check check) {
        for (int mode = 0; mode <= 1; mode++) {
            LayoutOptimizer x = Samples.blocks(20, 1, 1);
            x.layout(2);
            check.due("a refused layout is none", x.block(1, 1), 1);
            check.due("layout(" + mode + ")", x.layout(mode), 4);
            check.due("laid out: block(0, 1)", x.block(0, 1), REFUSED);
            check.due("laid out: count(0)", x.count(0), 2);
            x.layout(1 - mode);
            x.layout(-1);
            x.cool();
            check.due("ever: block(0, 1)", x.block(0, 1), REFUSED);
            check.due("ever: count(0)", x.count(0), 2);
        }
        LayoutOptimizer y = new LayoutOptimizer(20);
        y.layout(0);
        check.due("a layout of no blocks is refused, so it is none", y.block(0, 1), 0);
    }

    private static void fullAfterLayout(Check check) {
        LayoutOptimizer x = Samples.full();
        check.due("before: block(0, 1)", x.block(0, 1), FULL);
        x.layout(0);
        check.due("after: block(0, 1)", x.block(0, 1), REFUSED);
        check.due("after: block(0, 41)", x.block(0, 41), REFUSED);
        check.due("after: block(4, 1)", x.block(4, 1), REFUSED);
    }

    private static void startsWithReturn(Check check) {
        LayoutOptimizer x = Samples.bodies(20, 6, 7);
        check.due("walk(0, -1)", x.walk(0, -1), 1);
        check.dueHeat("no edges", x, 0, 1, NONE, NONE);
        check.dueHeat("the other is not entered", x, 1, 0, NONE, NONE);
        check.due("heat(0, 0, 1)", x.heat(0, 0, 1), REFUSED);
        check.due("heat(0, 1, 1)", x.heat(0, 1, 1), REFUSED);
        check.due("bodies and a unit for each return", x.layout(0), 6 + 1 + 7 + 1);
        check.due("branch(0, 0)", x.branch(0, 0), NONE);
        check.due("target(0, 0)", x.target(0, 0), NONE);
        check.due("cost(0, -1)", x.cost(0, -1), 1);
    }

    private static void refusedChangesNothing(Check check) {
        int[][] wrong = {{-1, 5}, {4, 5}, {0, 0}, {0, 41}, {1, 0}, {3, 41}};
        for (int[] w : wrong) {
            Unchanged.dueInEveryState(check, "block(" + w[0] + ", " + w[1] + ")", REFUSED, x -> x.block(w[0], w[1]));
        }
        Unchanged.due(check, "laid out by number: block(1, 5)", REFUSED, () -> Samples.busyLaidOut(0),
                x -> x.block(1, 5));
        Unchanged.due(check, "laid out by chains: block(1, 5)", REFUSED, () -> Samples.busyLaidOut(1),
                x -> x.block(1, 5));
        Unchanged.due(check, "full and laid out: block(1, 5)", REFUSED, Samples::fullLaidOut, x -> x.block(1, 5));
    }
}

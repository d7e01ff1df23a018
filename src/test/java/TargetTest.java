/** Promise 12: where the branches lead. */
public final class TargetTest {
    private static final int NONE = LayoutOptimizer.NONE;

    public static void main(String[] args) {
        Check check = new Check("Promise 12, target");
        check.test("BRANCH i, 0 or 1", TargetTest::numbers);
        check.test("NONE as in branch: without a LAYOUT", TargetTest::noLayout);
        check.test("NONE as in branch: no such block", TargetTest::noSuchBlock);
        check.test("RETURN: no BRANCH", TargetTest::ofReturn);
        check.test("JUMP to y: y is NEXT: nothing; else a BRANCH to y", TargetTest::ofJump);
        check.test("TEST x, y: y is NEXT: a BRANCH to x", TargetTest::toFirst);
        check.test("else x is NEXT: a BRANCH to y (turned round)", TargetTest::turnedRound);
        check.test("else a BRANCH to x and behind it a BRANCH to y", TargetTest::toBoth);
        check.test("For x and y the same and NEXT: a BRANCH to x", TargetTest::sameTargets);
        check.test("NEXT: none for the last", TargetTest::ofTheLast);
        check.test("in the LAYOUT, by its places", TargetTest::byPlace);
        check.test("of a LONG one as of a SHORT one", TargetTest::ofLong);
        check.test("NONE if it has no such in the LAYOUT, though it had in the one before", TargetTest::noLonger);
        check.test("a call that answers NONE changes nothing", TargetTest::changesNothing);
        check.end();
    }

    private static void due(Check check, String when, LayoutOptimizer x, int block, int first, int second) {
        check.due(when + ": target(" + block + ", 0)", x.target(block, 0), first);
        check.due(when + ": target(" + block + ", 1)", x.target(block, 1), second);
    }

    private static void numbers(Check check) {
        LayoutOptimizer x = Samples.fork(20);
        x.jump(1, 3);
        x.layout(0);
        int[] none = {-1, -2, 2, 3, Integer.MIN_VALUE, Integer.MAX_VALUE};
        for (int b = 0; b < 4; b++) {
            for (int i : none) {
                check.due("target(" + b + ", " + i + ")", x.target(b, i), NONE);
            }
        }
        due(check, "two", x, 0, 2, 3);
        due(check, "one", x, 1, 3, NONE);
        due(check, "no branch", x, 2, NONE, NONE);
    }

    private static void noLayout(Check check) {
        due(check, "new", new LayoutOptimizer(20), 0, NONE, NONE);
        LayoutOptimizer x = Samples.fork(20);
        due(check, "no layout", x, 0, NONE, NONE);
        x.layout(2);
        due(check, "a refused layout", x, 0, NONE, NONE);
        x.layout(0);
        due(check, "a layout", x, 0, 2, 3);
        x.layout(2);
        due(check, "a refused layout behind it", x, 0, 2, 3);
    }

    private static void noSuchBlock(Check check) {
        LayoutOptimizer x = Samples.fork(20);
        x.layout(0);
        for (int b : new int[] {-1, 4, 23, 24, Integer.MIN_VALUE, Integer.MAX_VALUE}) {
            due(check, "no such block", x, b, NONE, NONE);
        }
        LayoutOptimizer full = Samples.full();
        full.layout(0);
        due(check, "full, the last", full, 23, 6, 1);
        due(check, "full, behind it", full, 24, NONE, NONE);
    }

    private static void ofReturn(Check check) {
        LayoutOptimizer x = Samples.blocks(20, 2, 2);
        x.layout(0);
        due(check, "a return", x, 0, NONE, NONE);
        due(check, "the last, a return", x, 1, NONE, NONE);
    }

    private static void ofJump(Check check) {
        LayoutOptimizer x = Samples.blocks(20, 5, 2);
        x.jump(0, 1);
        x.jump(1, 1);
        x.jump(2, 4);
        x.jump(3, 0);
        x.layout(0);
        due(check, "to the next", x, 0, NONE, NONE);
        due(check, "to itself", x, 1, 1, NONE);
        due(check, "to the next but one", x, 2, 4, NONE);
        due(check, "to the first", x, 3, 0, NONE);
    }

    private static void toFirst(Check check) {
        LayoutOptimizer x = Samples.blocks(20, 4, 2);
        x.test(0, 3, 1);
        x.test(1, 0, 2);
        x.test(2, 2, 3);
        x.layout(0);
        due(check, "behind", x, 0, 3, NONE);
        due(check, "before", x, 1, 0, NONE);
        due(check, "itself", x, 2, 2, NONE);
    }

    private static void turnedRound(Check check) {
        LayoutOptimizer x = Samples.blocks(20, 4, 2);
        x.test(0, 1, 3);
        x.test(1, 2, 0);
        x.test(2, 3, 2);
        x.layout(0);
        due(check, "behind", x, 0, 3, NONE);
        due(check, "before", x, 1, 0, NONE);
        due(check, "itself", x, 2, 2, NONE);
    }

    private static void toBoth(Check check) {
        LayoutOptimizer x = Samples.blocks(20, 5, 2);
        x.test(0, 2, 4);
        x.test(1, 4, 0);
        x.test(2, 2, 1);
        x.test(3, 0, 3);
        x.layout(0);
        due(check, "both behind", x, 0, 2, 4);
        due(check, "behind and before", x, 1, 4, 0);
        due(check, "itself and before", x, 2, 2, 1);
        due(check, "before and itself", x, 3, 0, 3);
    }

    private static void sameTargets(Check check) {
        LayoutOptimizer x = Samples.blocks(20, 4, 2);
        x.test(0, 1, 1);
        x.test(1, 0, 0);
        x.test(2, 2, 2);
        x.layout(0);
        due(check, "the same, and next", x, 0, 1, NONE);
        due(check, "the same, before", x, 1, 0, 0);
        due(check, "the same, itself", x, 2, 2, 2);
    }

    private static void ofTheLast(Check check) {
        LayoutOptimizer one = Samples.blocks(20, 1, 2);
        one.jump(0, 0);
        one.layout(1);
        due(check, "the only one", one, 0, 0, NONE);
        LayoutOptimizer x = Samples.blocks(20, 3, 2);
        x.jump(2, 0);
        x.layout(0);
        due(check, "a jump", x, 2, 0, NONE);
        LayoutOptimizer y = Samples.blocks(20, 3, 2);
        y.test(2, 0, 2);
        y.layout(0);
        due(check, "a test", y, 2, 0, 2);
    }

    private static void byPlace(Check check) {
        LayoutOptimizer x = Samples.blocks(20, 4, 2);
        x.test(0, 3, 1);
        x.test(1, 2, 0);
        x.layout(0);
        due(check, "by number, the second is next", x, 0, 3, NONE);
        due(check, "by number, the first is next", x, 1, 0, NONE);
        x.heat(0, 0, 1);
        x.layout(1);
        // 0, 3, 1, 2.
        due(check, "by chains, the first is next", x, 0, 1, NONE);
        due(check, "by chains, the first is next by its place", x, 1, 0, NONE);
        x.heat(0, 1, 1);
        x.heat(1, 1, 9);
        due(check, "heated, but not laid out anew", x, 0, 1, NONE);
        x.layout(0);
        due(check, "by number again", x, 0, 3, NONE);
    }

    private static void ofLong(Check check) {
        LayoutOptimizer x = Samples.fork(4);
        x.layout(0);
        check.due("branch(0, 0)", x.branch(0, 0), LayoutOptimizer.LONG);
        due(check, "long", x, 0, 2, 3);
        LayoutOptimizer y = Samples.fork(5);
        y.layout(0);
        check.due("branch(0, 0)", y.branch(0, 0), LayoutOptimizer.SHORT);
        due(check, "short", y, 0, 2, 3);
    }

    /** 0 tests for 2 and 3, and once one of them is hot, that one is next. */
    private static void noLonger(Check check) {
        for (int e = 0; e <= 1; e++) {
            LayoutOptimizer x = Samples.fork(20);
            x.heat(0, e, 1);
            x.layout(0);
            due(check, "by number", x, 0, 2, 3);
            x.layout(1);
            due(check, "by chains", x, 0, 3 - e, NONE);
            x.layout(0);
            due(check, "by number again", x, 0, 2, 3);
        }
        LayoutOptimizer y = Samples.blocks(20, 3, 2);
        y.jump(0, 2);
        y.heat(0, 0, 1);
        y.layout(0);
        due(check, "a jump by number", y, 0, 2, NONE);
        y.layout(1);
        due(check, "a jump by chains", y, 0, NONE, NONE);
    }

    private static void changesNothing(Check check) {
        int[][] none = {{-1, 0}, {24, 0}, {24, 1}, {0, -1}, {0, 2}};
        for (int[] w : none) {
            Unchanged.dueInEveryState(check, "target(" + w[0] + ", " + w[1] + ")", NONE, x -> x.target(w[0], w[1]));
        }
        Unchanged.due(check, "busy: target(0, 0)", NONE, Samples::busy, x -> x.target(0, 0));
        Unchanged.due(check, "laid out: target(4, 0)", NONE, () -> Samples.busyLaidOut(0), x -> x.target(4, 0));
    }
}

/** Promise 11: which branches there are, and how long they are. */
public final class BranchTest {
    private static final int NONE = LayoutOptimizer.NONE;
    private static final int SHORT = LayoutOptimizer.SHORT;
    private static final int LONG = LayoutOptimizer.LONG;

    public static void main(String[] args) {
        Check check = new Check("Promise 11, branch");
        check.test("BRANCH i, 0 or 1", BranchTest::numbers);
        check.test("NONE without a LAYOUT", BranchTest::noLayout);
        check.test("NONE for no such block", BranchTest::noSuchBlock);
        check.test("RETURN: no BRANCH", BranchTest::ofReturn);
        check.test("JUMP to y: y is NEXT: nothing; else a BRANCH to y", BranchTest::ofJump);
        check.test("TEST x, y: y is NEXT, or x is NEXT: one BRANCH", BranchTest::ofTest);
        check.test("else a BRANCH to x and behind it a BRANCH to y", BranchTest::ofTestFarOff);
        check.test("For x and y the same and NEXT: a BRANCH to x", BranchTest::sameTargets);
        check.test("NEXT being the block placed right behind it", BranchTest::nextByPlace);
        check.test("NEXT: none for the last", BranchTest::noNextForTheLast);
        check.test("differs by more than RANGE, forward", BranchTest::reachForward);
        check.test("differs by more than RANGE, back", BranchTest::reachBack);
        check.test("differs by more than RANGE, of a TEST's only BRANCH", BranchTest::reachOfOnlyOne);
        check.test("differs by more than RANGE, of a TEST's second BRANCH", BranchTest::reachOfSecond);
        check.test("its own ADDRESS, with the lengths as they are", BranchTest::behindALongOne);
        check.test("Again and again: until none does", BranchTest::againAndAgain);
        check.test("All BRANCHES are SHORT at first, in each LAYOUT", BranchTest::shortAtFirst);
        check.test("NONE if it has no such in the LAYOUT, though it had in the one before", BranchTest::noLonger);
        check.test("a call that answers NONE changes nothing", BranchTest::changesNothing);
        check.end();
    }

    private static void due(Check check, String when, LayoutOptimizer x, int block, int first, int second) {
        check.due(when + ": branch(" + block + ", 0)", x.branch(block, 0), first);
        check.due(when + ": branch(" + block + ", 1)", x.branch(block, 1), second);
    }

    private static void numbers(Check check) {
        LayoutOptimizer x = Samples.fork(4);
        x.jump(1, 3);
        x.layout(0);
        int[] none = {-1, -2, 2, 3, Integer.MIN_VALUE, Integer.MAX_VALUE};
        for (int b = 0; b < 4; b++) {
            for (int i : none) {
                check.due("branch(" + b + ", " + i + ")", x.branch(b, i), NONE);
            }
        }
        due(check, "two", x, 0, LONG, LONG);
        due(check, "one", x, 1, SHORT, NONE);
        due(check, "no branch", x, 2, NONE, NONE);
    }

    private static void noLayout(Check check) {
        due(check, "new", new LayoutOptimizer(20), 0, NONE, NONE);
        LayoutOptimizer x = Samples.fork(20);
        due(check, "no layout", x, 0, NONE, NONE);
        x.layout(-1);
        due(check, "a refused layout", x, 0, NONE, NONE);
        x.layout(0);
        due(check, "a layout", x, 0, SHORT, SHORT);
        x.layout(-1);
        due(check, "a refused layout behind it", x, 0, SHORT, SHORT);
    }

    private static void noSuchBlock(Check check) {
        LayoutOptimizer x = Samples.fork(20);
        x.layout(0);
        for (int b : new int[] {-1, 4, 23, 24, Integer.MIN_VALUE, Integer.MAX_VALUE}) {
            due(check, "no such block", x, b, NONE, NONE);
        }
        LayoutOptimizer full = Samples.full();
        full.layout(0);
        due(check, "full, the last", full, 23, LONG, LONG);
        due(check, "full, behind it", full, 24, NONE, NONE);
    }

    private static void ofReturn(Check check) {
        LayoutOptimizer x = Samples.blocks(20, 2, 2);
        x.layout(0);
        due(check, "a return", x, 0, NONE, NONE);
        due(check, "the last, a return", x, 1, NONE, NONE);
        check.due("branches", x.count(2), 0);
    }

    private static void ofJump(Check check) {
        LayoutOptimizer x = Samples.blocks(20, 5, 2);
        x.jump(0, 1);
        x.jump(1, 1);
        x.jump(2, 4);
        x.jump(3, 2);
        x.layout(0);
        due(check, "to the next", x, 0, NONE, NONE);
        due(check, "to itself", x, 1, SHORT, NONE);
        due(check, "to the next but one", x, 2, SHORT, NONE);
        due(check, "to the one before", x, 3, SHORT, NONE);
        check.due("branches", x.count(2), 3);
    }

    private static void ofTest(Check check) {
        LayoutOptimizer x = Samples.blocks(20, 5, 2);
        x.test(0, 3, 1);
        x.test(1, 2, 0);
        x.test(2, 2, 3);
        x.test(3, 4, 3);
        x.layout(0);
        due(check, "the second is next", x, 0, SHORT, NONE);
        due(check, "the first is next", x, 1, SHORT, NONE);
        due(check, "itself, and next", x, 2, SHORT, NONE);
        due(check, "next, and itself", x, 3, SHORT, NONE);
        check.due("branches", x.count(2), 4);
        check.due("one unit each", x.count(1), 5 * 2 + 4 + 1);
    }

    private static void ofTestFarOff(Check check) {
        LayoutOptimizer x = Samples.blocks(20, 5, 2);
        x.test(0, 2, 3);
        x.test(1, 1, 0);
        x.test(2, 4, 2);
        x.layout(0);
        due(check, "the next but one, and behind", x, 0, SHORT, SHORT);
        due(check, "itself, and before", x, 1, SHORT, SHORT);
        due(check, "the next but one, and itself", x, 2, SHORT, SHORT);
        check.due("branches", x.count(2), 6);
        check.due("one unit each", x.count(1), 5 * 2 + 6 + 2);
    }

    private static void sameTargets(Check check) {
        LayoutOptimizer x = Samples.blocks(20, 4, 2);
        x.test(0, 1, 1);
        x.test(1, 0, 0);
        x.test(2, 2, 2);
        x.layout(0);
        due(check, "the same, and next", x, 0, SHORT, NONE);
        due(check, "the same, before", x, 1, SHORT, SHORT);
        due(check, "the same, itself", x, 2, SHORT, SHORT);
        check.due("branches", x.count(2), 5);
    }

    /** By chains 2 stands right behind 0, by number 1 does. */
    private static void nextByPlace(Check check) {
        LayoutOptimizer x = Samples.blocks(20, 4, 2);
        x.jump(0, 2);
        x.jump(1, 2);
        x.jump(2, 1);
        x.heat(0, 0, 1);
        x.layout(0);
        due(check, "by number", x, 0, SHORT, NONE);
        due(check, "by number", x, 1, NONE, NONE);
        due(check, "by number", x, 2, SHORT, NONE);
        x.layout(1);
        due(check, "by chains, in one", x, 0, NONE, NONE);
        due(check, "by chains, 3 is next", x, 1, SHORT, NONE);
        due(check, "by chains, next by its place alone", x, 2, NONE, NONE);
        // A block of another function stands between.
        LayoutOptimizer y = Samples.blocks(20, 2, 2);
        y.block(1, 2);
        y.jump(0, 1);
        y.layout(1);
        due(check, "between the warm and the cold", y, 0, SHORT, NONE);
    }

    private static void noNextForTheLast(Check check) {
        LayoutOptimizer one = Samples.blocks(20, 1, 2);
        one.jump(0, 0);
        one.layout(0);
        due(check, "the only one, to itself", one, 0, SHORT, NONE);
        LayoutOptimizer x = Samples.blocks(20, 3, 2);
        x.jump(2, 0);
        x.layout(0);
        due(check, "to the first", x, 2, SHORT, NONE);
        LayoutOptimizer y = Samples.blocks(20, 3, 2);
        y.test(2, 0, 1);
        y.layout(0);
        due(check, "a test", y, 2, SHORT, SHORT);
        // 0, 2, 1: 1 is the last, and 2, which follows it by number, stands before it.
        LayoutOptimizer z = Samples.blocks(20, 3, 2);
        z.jump(0, 2);
        z.jump(1, 2);
        z.heat(0, 0, 1);
        z.layout(1);
        due(check, "the last by its place", z, 1, SHORT, NONE);
        LayoutOptimizer full = Samples.full();
        full.layout(0);
        due(check, "the last of 24", full, 23, LONG, LONG);
    }

    /** 0 jumps over 1: the branch, the body of 1 and a return are between. */
    private static void reachForward(Check check) {
        for (int body = 5; body <= 11; body++) {
            LayoutOptimizer x = Samples.bodies(10, 3, body, 1);
            x.jump(0, 2);
            x.layout(0);
            due(check, "over " + (body + 2), x, 0, body + 2 > 10 ? LONG : SHORT, NONE);
        }
        LayoutOptimizer less = overUnits(399);
        due(check, "RANGE 400 over 399", less, 0, SHORT, NONE);
        LayoutOptimizer just = overUnits(400);
        due(check, "RANGE 400 over 400", just, 0, SHORT, NONE);
        LayoutOptimizer more = overUnits(401);
        due(check, "RANGE 400 over 401", more, 0, LONG, NONE);
    }

    /** Its own unit, nine blocks of 41 units each with their returns, and one that fills up. */
    private static LayoutOptimizer overUnits(int units) {
        LayoutOptimizer x = Samples.blocks(400, 10, 40);
        int rest = units - 1 - 9 * 41;
        x.block(0, rest - 1);
        x.block(0, 1);
        x.jump(0, 11);
        x.layout(0);
        return x;
    }

    /** 1 jumps back over its own body and over 0, that has a body of 1 and returns. */
    private static void reachBack(Check check) {
        for (int body = 5; body <= 11; body++) {
            LayoutOptimizer x = Samples.bodies(10, 1, body, 1);
            x.jump(1, 0);
            x.layout(0);
            due(check, "over " + (body + 2), x, 1, body + 2 > 10 ? LONG : SHORT, NONE);
        }
        for (int range = 11; range <= 13; range++) {
            LayoutOptimizer x = Samples.blocks(range, 2, 12);
            x.jump(0, 0);
            x.layout(0);
            due(check, "to itself over 12, RANGE " + range, x, 0, range < 12 ? LONG : SHORT, NONE);
        }
    }

    private static void reachOfOnlyOne(Check check) {
        for (int body = 7; body <= 9; body++) {
            int due = body + 2 > 10 ? LONG : SHORT;
            LayoutOptimizer x = Samples.bodies(10, 3, body, 1);
            x.test(0, 2, 1);
            x.layout(0);
            due(check, "to x over " + (body + 2), x, 0, due, NONE);
            LayoutOptimizer y = Samples.bodies(10, 3, body, 1);
            y.test(0, 1, 2);
            y.layout(0);
            due(check, "to y over " + (body + 2), y, 0, due, NONE);
        }
        for (int range = 20; range <= 33; range++) {
            LayoutOptimizer x = Samples.diamond(range);
            x.layout(0);
            due(check, "RANGE " + range, x, 0, range >= 23 ? SHORT : LONG, NONE);
            due(check, "RANGE " + range, x, 1, range >= 31 ? SHORT : LONG, NONE);
        }
    }

    private static void reachOfSecond(Check check) {
        for (int body = 6; body <= 9; body++) {
            LayoutOptimizer x = Samples.bodies(10, 3, body, 1);
            x.test(0, 0, 2);
            x.layout(0);
            due(check, "forward over " + (body + 2), x, 0, SHORT, body + 2 > 10 ? LONG : SHORT);
            // The first branch of 1, to itself, lies between the second one and its target.
            LayoutOptimizer y = Samples.bodies(10, 1, body, 1);
            y.test(1, 1, 0);
            y.layout(0);
            due(check, "back over " + (body + 3), y, 1, SHORT, body + 3 > 10 ? LONG : SHORT);
        }
    }

    private static void behindALongOne(Check check) {
        // The second branch moves with its target when the first grows: it goes over 10 units before and after.
        LayoutOptimizer x = Samples.bodies(10, 3, 8, 5, 1);
        x.test(0, 3, 2);
        x.layout(0);
        due(check, "forward, behind a long one", x, 0, LONG, SHORT);
        check.due("forward, behind a long one: length", x.count(1), 3 + 3 + 9 + 6 + 2);
        // 0 at 0, 1 at 2, 2 at 4; the first at 5, the second at 6, or at 7 once the first is long.
        for (int range = 4; range <= 6; range++) {
            LayoutOptimizer y = Samples.blocks(range, 3, 1);
            y.test(2, 0, 1);
            y.layout(0);
            int due = range >= 5 ? SHORT : LONG;
            due(check, "back, RANGE " + range, y, 2, due, due);
        }
    }

    /**
     * From the last block to the first each branch misses its target by one unit as soon as the one before it has
     * grown, and not sooner: 45 rounds, one branch in each.
     */
    private static LayoutOptimizer rounds(int range) {
        LayoutOptimizer x = Samples.blocks(range, 24, 2);
        x.test(0, 2, 0);
        for (int b = 1; b <= 21; b++) {
            x.test(b, b + 2, b - 1);
        }
        x.test(22, 0, 21);
        return x;
    }

    private static void againAndAgain(Check check) {
        LayoutOptimizer x = rounds(7);
        check.due("RANGE 7: length", x.layout(0), 24 * 2 + 1 + 45 * 2 + 1);
        check.due("RANGE 7: long ones", x.count(3), 45);
        due(check, "the last to grow, and one that need not", x, 0, LONG, SHORT);
        for (int b = 1; b <= 22; b++) {
            due(check, "RANGE 7", x, b, LONG, LONG);
        }
        LayoutOptimizer y = rounds(8);
        check.due("RANGE 8: length", y.layout(0), 24 * 2 + 1 + 46 + 1);
        check.due("RANGE 8: long ones", y.count(3), 1);
        due(check, "RANGE 8, the first to grow", y, 22, LONG, SHORT);
        due(check, "RANGE 8, the next does not", y, 21, SHORT, SHORT);
    }

    /** By chains 0, 2, 3, 1: only 0 misses 1, over 37 units; by number both reach over 31 at most. */
    private static void shortAtFirst(Check check) {
        LayoutOptimizer x = Samples.diamond(36);
        x.heat(0, 1, 1);
        x.heat(2, 0, 1);
        for (int k = 0; k < 2; k++) {
            x.layout(1);
            due(check, "by chains", x, 0, LONG, NONE);
            due(check, "by chains", x, 1, SHORT, NONE);
            due(check, "by chains", x, 2, NONE, NONE);
            x.layout(0);
            due(check, "by number", x, 0, SHORT, NONE);
            due(check, "by number", x, 1, SHORT, NONE);
            due(check, "by number", x, 2, NONE, NONE);
        }
    }

    /** 0 tests for 2 and 3, and once one of them is hot, that one is next. */
    private static void noLonger(Check check) {
        for (int e = 0; e <= 1; e++) {
            dueOneLess(check, 4, e, LONG);
            dueOneLess(check, 5, e, SHORT);
        }
        LayoutOptimizer y = Samples.blocks(20, 3, 2);
        y.jump(0, 2);
        y.heat(0, 0, 1);
        y.layout(0);
        due(check, "a jump by number", y, 0, SHORT, NONE);
        y.layout(1);
        due(check, "a jump by chains", y, 0, NONE, NONE);
    }

    /** By number the branches go over 4 and 5 units, by chains the one that is left goes over 5. */
    private static void dueOneLess(Check check, int range, int hot, int length) {
        LayoutOptimizer x = Samples.fork(range);
        x.heat(0, hot, 1);
        x.layout(0);
        due(check, "by number", x, 0, length, length);
        x.layout(1);
        due(check, "by chains", x, 0, length, NONE);
        check.due("by chains: branches", x.count(2), 1);
        check.due("by chains: length", x.count(1), 4 + length + 3);
        x.layout(0);
        due(check, "by number again", x, 0, length, length);
    }

    private static void changesNothing(Check check) {
        int[][] none = {{-1, 0}, {24, 0}, {24, 1}, {0, -1}, {0, 2}};
        for (int[] w : none) {
            Unchanged.dueInEveryState(check, "branch(" + w[0] + ", " + w[1] + ")", NONE, x -> x.branch(w[0], w[1]));
        }
        Unchanged.due(check, "busy: branch(0, 0)", NONE, Samples::busy, x -> x.branch(0, 0));
        Unchanged.due(check, "laid out: branch(4, 0)", NONE, () -> Samples.busyLaidOut(0), x -> x.branch(4, 0));
    }
}

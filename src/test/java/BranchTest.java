/** Promises 11 and 12: which branches there are, how long, and where they lead. */
public final class BranchTest {
    private static final int NONE = LayoutOptimizer.NONE;
    private static final int SHORT = LayoutOptimizer.SHORT;
    private static final int LONG = LayoutOptimizer.LONG;

    public static void main(String[] args) {
        Check check = new Check();
        without(check);
        wrongNumbers(check);
        ofJump(check);
        ofTest(check);
        sameTargets(check);
        reach(check);
        secondStandsBehindFirst(check);
        check.end();
    }

    private static void due(Check check, String when, LayoutOptimizer x, int block, int[] lengths, int[] targets) {
        for (int i = 0; i < 2; i++) {
            String of = "(" + block + ", " + i + ")";
            check.due(when + ": branch" + of, x.branch(block, i), i < lengths.length ? lengths[i] : NONE);
            check.due(when + ": target" + of, x.target(block, i), i < targets.length ? targets[i] : NONE);
        }
    }

    private static int[] row(int... values) {
        return values;
    }

    private static void without(Check check) {
        LayoutOptimizer x = Samples.fork(20);
        due(check, "no layout", x, 0, row(), row());
        x.layout(-1);
        due(check, "a refused layout", x, 0, row(), row());
        x.layout(0);
        due(check, "a layout", x, 0, row(SHORT, SHORT), row(2, 3));
        due(check, "a return", x, 3, row(), row());
    }

    private static void wrongNumbers(Check check) {
        LayoutOptimizer x = Samples.fork(20);
        x.layout(0);
        for (int block : new int[] {-1, 4, 23, 24, Integer.MIN_VALUE, Integer.MAX_VALUE}) {
            due(check, "no such block", x, block, row(), row());
        }
        for (int i : new int[] {-1, 2, Integer.MIN_VALUE, Integer.MAX_VALUE}) {
            check.due("branch(0, " + i + ")", x.branch(0, i), NONE);
            check.due("target(0, " + i + ")", x.target(0, i), NONE);
            check.due("branch(1, " + i + ")", x.branch(1, i), NONE);
            check.due("target(1, " + i + ")", x.target(1, i), NONE);
        }
    }

    private static void ofJump(Check check) {
        LayoutOptimizer x = Samples.blocks(20, 3, 2);
        x.jump(0, 1);
        x.jump(1, 1);
        x.jump(2, 0);
        x.layout(0);
        due(check, "to the next", x, 0, row(), row());
        due(check, "to itself", x, 1, row(SHORT), row(1));
        due(check, "the last, back", x, 2, row(SHORT), row(0));
    }

    private static void ofTest(Check check) {
        LayoutOptimizer x = Samples.blocks(20, 4, 2);
        x.test(0, 3, 1);
        x.test(1, 2, 0);
        x.test(2, 2, 0);
        x.test(3, 3, 0);
        x.layout(0);
        due(check, "the second is next", x, 0, row(SHORT), row(3));
        due(check, "the first is next", x, 1, row(SHORT), row(0));
        due(check, "neither is next", x, 2, row(SHORT, SHORT), row(2, 0));
        due(check, "the last", x, 3, row(SHORT, SHORT), row(3, 0));
        // By chains 3 comes right behind 0, so that the branch of 0 is turned round.
        x.heat(0, 0, 1);
        x.layout(1);
        due(check, "anew: the first is next", x, 0, row(SHORT), row(1));
        due(check, "anew: neither is next", x, 3, row(SHORT, SHORT), row(3, 0));
        x.layout(0);
        due(check, "by number again", x, 0, row(SHORT), row(3));
    }

    private static void sameTargets(Check check) {
        LayoutOptimizer x = Samples.blocks(20, 3, 2);
        x.test(0, 1, 1);
        x.test(1, 0, 0);
        x.layout(0);
        due(check, "the same, and next", x, 0, row(SHORT), row(1));
        due(check, "the same, not next", x, 1, row(SHORT, SHORT), row(0, 0));
    }

    /** A branch counts from its own address to its target's, forward and back. */
    private static void reach(Check check) {
        for (int range = 20; range <= 33; range++) {
            LayoutOptimizer x = Samples.diamond(range);
            x.layout(0);
            due(check, "range " + range, x, 0, row(range >= 23 ? SHORT : LONG), row(2));
            due(check, "range " + range, x, 1, row(range >= 31 ? SHORT : LONG), row(3));
        }
        for (int range = 10; range <= 14; range++) {
            LayoutOptimizer x = Samples.blocks(range, 2, 6);
            x.jump(0, 1);
            x.jump(1, 0);
            x.layout(0);
            due(check, "back, range " + range, x, 1, row(range >= 12 ? SHORT : LONG), row(0));
        }
    }

    /** 2 branches to 0 over 5 units and behind that to 1, over 4 units if the first is short. */
    private static void secondStandsBehindFirst(Check check) {
        for (int range = 4; range <= 7; range++) {
            LayoutOptimizer x = Samples.blocks(range, 3, 1);
            x.test(2, 0, 1);
            x.layout(0);
            // 0 at 0, 1 at 2, 2 at 4; the first at 5, the second at 6, or at 7 once the first is long.
            due(check, "range " + range, x, 2, row(range >= 5 ? SHORT : LONG, range >= 5 ? SHORT : LONG), row(0, 1));
        }
        LayoutOptimizer x = Samples.fork(4);
        x.layout(0);
        due(check, "fork, 4", x, 0, row(LONG, LONG), row(2, 3));
        LayoutOptimizer y = Samples.fork(5);
        y.layout(0);
        due(check, "fork, 5", y, 0, row(SHORT, SHORT), row(2, 3));
    }
}

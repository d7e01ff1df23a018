/** Promise 15. */
public final class CountTest {
    private static final int REFUSED = LayoutOptimizer.REFUSED;

    public static void main(String[] args) {
        Check check = new Check("Promise 15, count");
        check.test("0: blocks", CountTest::blocks);
        check.test("of the LAYOUT (0 without one)", CountTest::noLayout);
        check.test("1: its length", CountTest::length);
        check.test("2: BRANCHES", CountTest::branches);
        check.test("3: LONG ones", CountTest::longOnes);
        check.test("4: blocks in COLD chains (0 in mode 0)", CountTest::coldBlocks);
        check.test("5: chains (blocks, in mode 0)", CountTest::chains);
        check.test("of the LAYOUT, not of what changed since", CountTest::asLaidOut);
        check.test("Else REFUSED", CountTest::refuses);
        check.test("a refused call changes nothing", CountTest::refusedChangesNothing);
        check.end();
    }

    private static void due(Check check, String when, LayoutOptimizer x, int... counts) {
        for (int what = 0; what < counts.length; what++) {
            check.due(when + ": count(" + what + ")", x.count(what), counts[what]);
        }
    }

    private static void blocks(Check check) {
        LayoutOptimizer x = new LayoutOptimizer(20);
        for (int b = 0; b <= 24; b++) {
            check.due("after " + b, x.count(0), b);
            x.block(b % 4, 1);
        }
        check.due("one is too many", x.count(0), 24);
        x.layout(1);
        check.due("laid out", x.count(0), 24);
    }

    private static void noLayout(Check check) {
        due(check, "new", new LayoutOptimizer(20), 0, 0, 0, 0, 0, 0);
        LayoutOptimizer x = Samples.busy();
        due(check, "blocks", x, 7, 0, 0, 0, 0, 0);
        x.layout(2);
        due(check, "a refused layout", x, 7, 0, 0, 0, 0, 0);
    }

    private static void length(Check check) {
        for (int range = 21; range <= 32; range++) {
            LayoutOptimizer x = Samples.diamond(range);
            int length = x.layout(0);
            check.due("RANGE " + range + ": count(1)", x.count(1), range >= 31 ? 68 : range >= 23 ? 69 : 70);
            check.due("RANGE " + range + ": as answered", x.count(1), length);
        }
        LayoutOptimizer full = Samples.blocks(4, 24, 40);
        full.layout(1);
        check.due("24 blocks: count(1)", full.count(1), 24 * 41);
        LayoutOptimizer one = Samples.blocks(4, 1, 1);
        one.layout(1);
        check.due("one block: count(1)", one.count(1), 2);
    }

    private static void branches(Check check) {
        LayoutOptimizer none = Samples.blocks(4, 24, 1);
        none.layout(0);
        check.due("24 returns", none.count(2), 0);
        LayoutOptimizer all = Samples.full();
        all.layout(0);
        check.due("24 tests, neither next", all.count(2), 48);
        LayoutOptimizer x = Samples.diamond(31);
        x.layout(0);
        check.due("a test, a jump, a jump to the next", x.count(2), 2);
        check.due("again", x.layout(0), 68);
        check.due("not added up", x.count(2), 2);
    }

    private static void longOnes(Check check) {
        for (int range = 21; range <= 32; range++) {
            LayoutOptimizer x = Samples.diamond(range);
            x.layout(0);
            x.layout(0);
            check.due("RANGE " + range + ": count(3)", x.count(3), range >= 31 ? 0 : range >= 23 ? 1 : 2);
        }
        LayoutOptimizer fork = Samples.fork(4);
        fork.layout(0);
        check.due("two of one block", fork.count(3), 2);
        LayoutOptimizer full = Samples.blocks(4, 24, 40);
        for (int b = 0; b < 24; b++) {
            full.test(b, b, (b + 12) % 24);
        }
        full.layout(0);
        check.due("as many as there can be", full.count(3), 48);
    }

    private static void coldBlocks(Check check) {
        LayoutOptimizer x = Samples.diamond(30);
        x.layout(0);
        check.due("mode 0, counts 0", x.count(4), 0);
        x.layout(1);
        check.due("all but the entry", x.count(4), 3);
        x.heat(0, 1, 1);
        x.layout(1);
        check.due("one less", x.count(4), 2);
        x.heat(2, 0, 1);
        x.layout(1);
        check.due("two less", x.count(4), 1);
        x.heat(0, 0, 1);
        x.layout(1);
        check.due("none", x.count(4), 0);
        x.cool();
        x.layout(0);
        check.due("mode 0 behind mode 1", x.count(4), 0);
        LayoutOptimizer full = Samples.blocks(4, 24, 40);
        full.layout(1);
        check.due("as many as there can be", full.count(4), 23);
    }

    private static void chains(Check check) {
        LayoutOptimizer x = Samples.diamond(30);
        x.heat(0, 1, 1);
        x.heat(2, 0, 1);
        x.layout(0);
        check.due("mode 0", x.count(5), 4);
        x.layout(1);
        check.due("0 2 3 and 1", x.count(5), 2);
        x.layout(0);
        check.due("mode 0 behind mode 1", x.count(5), 4);
        LayoutOptimizer one = Samples.blocks(4, 1, 1);
        one.layout(1);
        check.due("one block", one.count(5), 1);
        LayoutOptimizer full = Samples.blocks(4, 24, 1);
        for (int b = 0; b < 23; b++) {
            full.jump(b, b + 1);
            full.heat(b, 0, 1);
        }
        full.layout(1);
        check.due("24 blocks in one", full.count(5), 1);
        full.cool();
        full.layout(1);
        check.due("24 blocks alone", full.count(5), 24);
    }

    private static void asLaidOut(Check check) {
        LayoutOptimizer x = Samples.diamond(30);
        x.layout(1);
        due(check, "laid out", x, 4, 69, 2, 1, 3, 4);
        x.heat(0, 1, 1);
        x.heat(2, 0, 1);
        x.walk(0, 1);
        due(check, "heated and walked", x, 4, 69, 2, 1, 3, 4);
        x.layout(9);
        due(check, "a refused layout", x, 4, 69, 2, 1, 3, 4);
        x.layout(0);
        due(check, "by number", x, 4, 69, 2, 1, 0, 4);
    }

    private static void refuses(Check check) {
        LayoutOptimizer x = Samples.fork(4);
        x.layout(0);
        check.due("count(-1)", x.count(-1), REFUSED);
        due(check, "0 to 5", x, 4, 11, 2, 2, 0, 4);
        check.due("count(6)", x.count(6), REFUSED);
        for (int what : new int[] {-2, 7, Integer.MIN_VALUE, Integer.MAX_VALUE}) {
            check.due("count(" + what + ")", x.count(what), REFUSED);
        }
        for (int what : new int[] {-1, 6, Integer.MIN_VALUE, Integer.MAX_VALUE}) {
            check.due("new: count(" + what + ")", new LayoutOptimizer(4).count(what), REFUSED);
        }
    }

    private static void refusedChangesNothing(Check check) {
        for (int what : new int[] {-1, 6, Integer.MIN_VALUE, Integer.MAX_VALUE}) {
            Unchanged.dueInEveryState(check, "count(" + what + ")", REFUSED, x -> x.count(what));
        }
    }
}

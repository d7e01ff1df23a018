import java.util.function.Supplier;

/** Promise 13. */
public final class CostTest {
    private static final int REFUSED = LayoutOptimizer.REFUSED;
    private static final int SHORT = LayoutOptimizer.SHORT;
    private static final int LONG = LayoutOptimizer.LONG;

    public static void main(String[] args) {
        Check check = new Check("Promise 13, cost");
        check.test("RETURN: 1", CostTest::ofReturn);
        check.test("JUMP: 0 without a BRANCH, else 2, and 1 more if it is LONG", CostTest::ofJump);
        check.test("TEST: for its first BRANCH 1; if that is taken, 1 more and 1 more if it is LONG",
                CostTest::ofFirst);
        check.test("TEST: turned round, it is taken if it does not hold", CostTest::ofTurned);
        check.test("if it is not and there is a second, 2 more and 1 more if it is LONG", CostTest::ofSecond);
        check.test("For x and y the same and NEXT: a BRANCH to x", CostTest::sameTargets);
        check.test("all blocks that a walk with these would enter", CostTest::asWalked);
        check.test("bits of holds: not from the 32nd on", CostTest::bitsEnd);
        check.test("60 entered: the last one is left, too", CostTest::sixty);
        check.test("in the LAYOUT", CostTest::inTheLayout);
        check.test("the counts stay", CostTest::leavesCounts);
        check.test("f 0 .. 3", CostTest::functions);
        check.test("The function has no block: REFUSED", CostTest::noBlock);
        check.test("there is no LAYOUT: REFUSED", CostTest::noLayout);
        check.test("a refused call changes nothing", CostTest::refusedChangesNothing);
        check.end();
    }

    private static void ofReturn(Check check) {
        LayoutOptimizer x = Samples.blocks(20, 2, 40);
        x.layout(0);
        check.due("cost(0, 0)", x.cost(0, 0), 1);
        check.due("cost(0, -1)", x.cost(0, -1), 1);
    }

    private static void ofJump(Check check) {
        LayoutOptimizer next = Samples.blocks(20, 3, 2);
        next.jump(0, 1);
        next.layout(0);
        check.due("no branch, a return", next.cost(0, 0), 0 + 1);
        // 0 jumps over 1, of 8 units, its own branch and a return: over 10 in all.
        for (int range = 9; range <= 11; range++) {
            LayoutOptimizer x = Samples.bodies(range, 3, 8, 1);
            x.jump(0, 2);
            x.layout(0);
            check.due("RANGE " + range + ": branch(0, 0)", x.branch(0, 0), range < 10 ? LONG : SHORT);
            check.due("RANGE " + range + ": a jump and a return", x.cost(0, 0), (range < 10 ? 3 : 2) + 1);
        }
    }

    /** 1 is next, and 2 is over 10 units away. */
    private static void ofFirst(Check check) {
        for (int range = 9; range <= 11; range++) {
            LayoutOptimizer x = Samples.bodies(range, 3, 8, 1);
            x.test(0, 2, 1);
            x.layout(0);
            check.due("RANGE " + range + ": taken, a return", x.cost(0, 1), (range < 10 ? 3 : 2) + 1);
            check.due("RANGE " + range + ": not taken, a return", x.cost(0, 0), 1 + 1);
        }
    }

    private static void ofTurned(Check check) {
        for (int range = 9; range <= 11; range++) {
            LayoutOptimizer x = Samples.bodies(range, 3, 8, 1);
            x.test(0, 1, 2);
            x.layout(0);
            check.due("RANGE " + range + ": not taken, a return", x.cost(0, 1), 1 + 1);
            check.due("RANGE " + range + ": taken, a return", x.cost(0, 0), (range < 10 ? 3 : 2) + 1);
        }
    }

    private static void ofSecond(Check check) {
        dueOfTwo(check, Samples.fork(5), SHORT, SHORT, 2 + 1, 3 + 1);
        dueOfTwo(check, Samples.fork(4), LONG, LONG, 3 + 1, 4 + 1);
        // The first goes over 17 units, the second over 10.
        LayoutOptimizer x = Samples.bodies(10, 3, 8, 5, 1);
        x.test(0, 3, 2);
        dueOfTwo(check, x, LONG, SHORT, 3 + 1, 3 + 1);
        // The first goes over 11 units, and over 12 once the second is long.
        LayoutOptimizer y = Samples.bodies(11, 3, 8, 5, 1);
        y.test(0, 2, 3);
        dueOfTwo(check, y, LONG, LONG, 3 + 1, 4 + 1);
        LayoutOptimizer z = Samples.bodies(12, 3, 8, 5, 1);
        z.test(0, 2, 3);
        dueOfTwo(check, z, SHORT, LONG, 2 + 1, 4 + 1);
    }

    private static void dueOfTwo(Check check, LayoutOptimizer x, int first, int second, int held, int notHeld) {
        x.layout(0);
        String when = "branches " + first + " and " + second;
        check.due(when + ": branch(0, 0)", x.branch(0, 0), first);
        check.due(when + ": branch(0, 1)", x.branch(0, 1), second);
        check.due(when + ": the first is taken", x.cost(0, 1), held);
        check.due(when + ": the second", x.cost(0, 0), notHeld);
    }

    private static void sameTargets(Check check) {
        LayoutOptimizer x = Samples.blocks(20, 3, 2);
        x.test(0, 1, 1);
        x.test(1, 2, 2);
        x.layout(0);
        check.due("both hold", x.cost(0, 3), 2 + 2 + 1);
        check.due("the first holds", x.cost(0, 1), 2 + 1 + 1);
        check.due("the second holds", x.cost(0, 2), 1 + 2 + 1);
        check.due("neither holds", x.cost(0, 0), 1 + 1 + 1);
        LayoutOptimizer y = Samples.blocks(20, 3, 2);
        y.test(0, 2, 2);
        y.layout(0);
        check.due("not next, holds", y.cost(0, 1), 2 + 1);
        check.due("not next, holds not", y.cost(0, 0), 3 + 1);
    }

    private static void asWalked(Check check) {
        LayoutOptimizer x = Samples.diamond(22);
        x.layout(0);
        check.due("not taken, a long jump, a return", x.cost(0, 1), 1 + 3 + 1);
        check.due("taken and long, no branch, a return", x.cost(0, 0), 3 + 0 + 1);
        check.due("only bit 0 is looked at", x.cost(0, -2), 3 + 0 + 1);
        LayoutOptimizer y = Samples.busy();
        y.layout(0);
        // 0 1 3 0 2 4: a turned test not taken, two long jumps, the test taken and long, a turned test, a return.
        check.due("0 1 3 0 2 4", y.cost(0, 1), 1 + 3 + 3 + 3 + 2 + 1);
        check.due("5 6", y.cost(2, 0), 0 + 1);
    }

    /** 0 goes to itself as long as it holds, then to 1, which is next and returns. */
    private static void bitsEnd(Check check) {
        LayoutOptimizer x = Samples.blocks(20, 2, 1);
        x.test(0, 0, 1);
        x.layout(0);
        check.due("tests 0 to 29 hold", x.cost(0, 0x3fffffff), 30 * 2 + 1 + 1);
        check.due("tests 0 to 30 hold", x.cost(0, 0x7fffffff), 31 * 2 + 1 + 1);
        check.due("tests 0 to 31 hold", x.cost(0, -1), 32 * 2 + 1 + 1);
        LayoutOptimizer y = Samples.blocks(20, 3, 1);
        y.jump(0, 1);
        y.test(1, 1, 0);
        y.layout(0);
        // 0; 1 and its test, that holds 32 times; 1 once more; then 0 and 1 in turn, 13 of each.
        check.due("32 bits and no more", y.cost(0, -1), 32 * 2 + 14 * 3);
    }

    private static void sixty(Check check) {
        LayoutOptimizer x = Samples.blocks(20, 2, 1);
        x.jump(0, 0);
        x.layout(0);
        check.due("60 jumps", x.cost(0, 0), 60 * 2);
        // The last one is left by the bit that would be next.
        LayoutOptimizer y = Samples.blocks(20, 2, 1);
        y.jump(0, 1);
        y.test(1, 0, 0);
        y.layout(0);
        check.due("30 jumps left out, 30 tests that hold", y.cost(0, -1), 30 * 2);
        check.due("the last test does not hold", y.cost(0, (1 << 29) - 1), 29 * 2 + 3);
        check.due("the last test holds, bit 30 is beyond", y.cost(0, (1 << 30) - 1), 30 * 2);
        // 0 and 1 in turn as often as there are bits, then 2, and 3 behind it.
        LayoutOptimizer z = Samples.blocks(20, 4, 1);
        z.test(0, 1, 2);
        z.jump(1, 0);
        z.jump(2, 3);
        z.layout(0);
        check.due("returns in the 59th", z.cost(0, (1 << 28) - 1), 28 * 3 + 2 + 0 + 1);
        check.due("would return in the 61st", z.cost(0, (1 << 29) - 1), 29 * 3 + 2 + 0);
        check.due("would return in the 63rd", z.cost(0, (1 << 30) - 1), 30 * 3);
        LayoutOptimizer end = Samples.blocks(20, 3, 1);
        end.test(0, 1, 2);
        end.jump(1, 0);
        end.layout(0);
        check.due("returns in the 60th", end.cost(0, (1 << 29) - 1), 29 * 3 + 2 + 1);
    }

    private static void inTheLayout(Check check) {
        LayoutOptimizer x = Samples.diamond(22);
        x.heat(0, 1, 1);
        x.heat(2, 0, 1);
        x.layout(0);
        check.due("by number: 0 1 3", x.cost(0, 1), 1 + 3 + 1);
        check.due("by number: 0 2 3", x.cost(0, 0), 3 + 0 + 1);
        x.layout(1);
        // 0, 2, 3, 1: the branch of 0 leads to 1 and is not turned round.
        check.due("by chains: 0 1 3", x.cost(0, 1), 3 + 3 + 1);
        check.due("by chains: 0 2 3", x.cost(0, 0), 1 + 0 + 1);
        x.heat(0, 0, 9);
        x.heat(1, 0, 9);
        check.due("heated, but not laid out anew", x.cost(0, 1), 3 + 3 + 1);
        x.layout(3);
        check.due("a refused layout", x.cost(0, 1), 3 + 3 + 1);
        x.layout(0);
        check.due("by number again", x.cost(0, 1), 1 + 3 + 1);
        // Two branches by number; by chains 3 is next, so that only the one to 2 is left.
        LayoutOptimizer y = Samples.fork(4);
        y.heat(0, 1, 1);
        y.layout(0);
        check.due("two branches: the second", y.cost(0, 0), 4 + 1);
        y.layout(1);
        check.due("one branch: not taken", y.cost(0, 0), 1 + 1);
        check.due("one branch: taken and long", y.cost(0, 1), 3 + 1);
    }

    private static void leavesCounts(Check check) {
        Unchanged.due(check, "cost(0, 1)", 7, () -> {
            LayoutOptimizer x = Samples.diamond(22);
            x.walk(0, 0);
            x.layout(1);
            return x;
        }, x -> x.cost(0, 1));
        LayoutOptimizer y = Samples.blocks(20, 1, 1);
        y.jump(0, 0);
        y.layout(0);
        y.cost(0, 0);
        check.dueHeat("60 entered", y, 0, 0, 0, LayoutOptimizer.NONE);
    }

    private static void functions(Check check) {
        LayoutOptimizer x = new LayoutOptimizer(20);
        // Function f has f + 1 blocks: the entry jumps to the last, and each other one to the one before it,
        // but for the second, that returns.
        int made = 0;
        for (int f = 0; f <= 3; f++) {
            for (int k = 0; k <= f; k++) {
                x.block(f, 1);
                made++;
                if (k > 1) {
                    x.jump(made - 1, made - 2);
                }
            }
            if (f > 0) {
                x.jump(made - 1 - f, made - 1);
            }
        }
        x.layout(0);
        check.due("cost(-1, 0)", x.cost(-1, 0), REFUSED);
        check.due("cost(0, 0)", x.cost(0, 0), 1);
        check.due("cost(1, 0)", x.cost(1, 0), 0 + 1);
        check.due("cost(2, 0)", x.cost(2, 0), 2 + 2 + 1);
        check.due("cost(3, 0)", x.cost(3, 0), 2 + 2 + 2 + 1);
        check.due("cost(4, 0)", x.cost(4, 0), REFUSED);
        check.due("cost(MIN, 0)", x.cost(Integer.MIN_VALUE, 0), REFUSED);
        check.due("cost(MAX, 0)", x.cost(Integer.MAX_VALUE, 0), REFUSED);
    }

    private static void noBlock(Check check) {
        LayoutOptimizer x = new LayoutOptimizer(20);
        x.block(2, 1);
        x.layout(0);
        for (int f = 0; f <= 3; f++) {
            check.due("a block of function 2: cost(" + f + ", 0)", x.cost(f, 0), f == 2 ? 1 : REFUSED);
        }
    }

    private static void noLayout(Check check) {
        check.due("new: cost(0, 0)", new LayoutOptimizer(20).cost(0, 0), REFUSED);
        LayoutOptimizer x = Samples.diamond(22);
        check.due("cost(0, 0)", x.cost(0, 0), REFUSED);
        x.layout(2);
        check.due("a refused layout: cost(0, 0)", x.cost(0, 0), REFUSED);
        x.layout(0);
        check.due("a layout: cost(0, 0)", x.cost(0, 0), 4);
    }

    private static void refusedChangesNothing(Check check) {
        for (int f : new int[] {-1, 4, Integer.MIN_VALUE, Integer.MAX_VALUE}) {
            Unchanged.dueInEveryState(check, "cost(" + f + ", 1)", REFUSED, x -> x.cost(f, 1));
        }
        dueUnchanged(check, "busy", Samples::busy, 0);
        dueUnchanged(check, "busy", Samples::busy, 1);
        dueUnchanged(check, "laid out by number", () -> Samples.busyLaidOut(0), 1);
        dueUnchanged(check, "laid out by chains", () -> Samples.busyLaidOut(1), 3);
        dueUnchanged(check, "new", () -> new LayoutOptimizer(22), 0);
    }

    private static void dueUnchanged(Check check, String when, Supplier<LayoutOptimizer> state, int f) {
        Unchanged.due(check, when + ": cost(" + f + ", 1)", REFUSED, state, x -> x.cost(f, 1));
    }
}

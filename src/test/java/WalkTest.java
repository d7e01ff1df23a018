import java.util.function.Supplier;

/** Promise 5. */
public final class WalkTest {
    private static final int REFUSED = LayoutOptimizer.REFUSED;
    private static final int NONE = LayoutOptimizer.NONE;

    public static void main(String[] args) {
        Check check = new Check("Promise 5, walk");
        check.test("Walks from the ENTRY of function f 0 .. 3", WalkTest::functions);
        check.test("The ENTRY of a function is its block with the least number", WalkTest::entries);
        check.test("at the i-th TEST that is come to, from 0, it holds if bit i of holds is 1", WalkTest::bitsInTurn);
        check.test("not from the 32nd on", WalkTest::bitsEnd);
        check.test("until a RETURN", WalkTest::untilReturn);
        check.test("until 60 blocks were entered", WalkTest::untilSixty);
        check.test("The counts of blocks entered and edges gone along rise by 1", WalkTest::counts);
        check.test("the edge of the 60th block is not gone along", WalkTest::sixtiethEdge);
        check.test("at most 1000000 (they stay there then)", WalkTest::staysAtMost);
        check.test("a LAYOUT stays, and does not end walks", WalkTest::behindLayout);
        check.test("The function has no block: REFUSED", WalkTest::noBlock);
        check.test("a refused call changes nothing", WalkTest::refusedChangesNothing);
        check.end();
    }

    private static void functions(Check check) {
        LayoutOptimizer x = new LayoutOptimizer(20);
        for (int f = 3; f >= 0; f--) {
            x.block(f, 1);
        }
        check.due("walk(-1, 0)", x.walk(-1, 0), REFUSED);
        for (int f = 0; f <= 3; f++) {
            check.due("walk(" + f + ", 0)", x.walk(f, 0), 1);
            check.due("its block", x.heatOf(3 - f, -1), 1);
        }
        check.due("walk(4, 0)", x.walk(4, 0), REFUSED);
        check.due("walk(MIN, 0)", x.walk(Integer.MIN_VALUE, 0), REFUSED);
        check.due("walk(MAX, 0)", x.walk(Integer.MAX_VALUE, 0), REFUSED);
    }

    private static void entries(Check check) {
        LayoutOptimizer x = new LayoutOptimizer(20);
        for (int f : new int[] {2, 0, 2, 0, 2}) {
            x.block(f, 1);
        }
        x.jump(2, 0);
        x.jump(3, 1);
        check.due("walk(2, 0)", x.walk(2, 0), 1);
        check.due("walk(0, 0)", x.walk(0, 0), 1);
        int[] due = {1, 1, 0, 0, 0};
        for (int b = 0; b < 5; b++) {
            check.due("count of " + b, x.heatOf(b, -1), due[b]);
        }
    }

    /** A bit is used up by a TEST alone, and by each in turn. */
    private static void bitsInTurn(Check check) {
        LayoutOptimizer x = Samples.blocks(20, 5, 1);
        x.test(0, 1, 4);
        x.jump(1, 2);
        x.test(2, 4, 3);
        x.test(3, 0, 4);
        check.due("0 1 2 3 0 1 2 4", x.walk(0, 0b11101), 8);
        check.dueHeat("0", x, 0, 2, 2, 0);
        check.dueHeat("2", x, 2, 2, 1, 1);
        check.dueHeat("3", x, 3, 1, 1, 0);
        check.dueHeat("4", x, 4, 1, NONE, NONE);
        check.due("bit 0 is not 1: 0 4", x.walk(0, 0b11100), 2);
        check.due("higher bits are not looked at: 0 1 2 4", x.walk(0, 0b1111011), 4);
    }

    /** 0 goes to itself as long as it holds, then to 1, which would go back to 0 if it held. */
    private static void bitsEnd(Check check) {
        LayoutOptimizer x = Samples.blocks(20, 3, 1);
        x.test(0, 0, 1);
        x.test(1, 0, 2);
        check.due("tests 0 to 29 hold", x.walk(0, 0x3fffffff), 31 + 2);
        check.due("tests 0 to 30 hold", x.walk(0, 0x7fffffff), 32 + 2);
        check.due("tests 0 to 31 hold, 32 and 33 not", x.walk(0, -1), 33 + 2);
        check.dueHeat("0", x, 0, 31 + 32 + 33, 30 + 31 + 32, 3);
        check.dueHeat("1", x, 1, 3, 0, 3);
        LayoutOptimizer y = Samples.blocks(20, 2, 1);
        y.test(0, 0, 0);
        check.due("without end, all bits", y.walk(0, -1), 60);
        check.dueHeat("32 held, 27 did not", y, 0, 60, 32, 27);
        y.cool();
        check.due("without end, bit 31 alone", y.walk(0, Integer.MIN_VALUE), 60);
        check.dueHeat("1 held", y, 0, 60, 1, 58);
        y.cool();
        check.due("without end, bit 0 alone", y.walk(0, 1), 60);
        check.dueHeat("1 held, not the 32nd too", y, 0, 60, 1, 58);
    }

    private static void untilReturn(Check check) {
        LayoutOptimizer x = Samples.blocks(20, 4, 1);
        check.due("the entry returns", x.walk(0, -1), 1);
        x.jump(0, 1);
        check.due("the second returns", x.walk(0, -1), 2);
        x.test(1, 3, 2);
        check.due("the third returns", x.walk(0, -1), 3);
        check.dueHeat("that was 3", x, 3, 1, NONE, NONE);
        check.dueHeat("not 2", x, 2, 0, NONE, NONE);
    }

    /** 0 and 1 in turn as often as there are bits, then 2, and 3 once 2 jumps there. */
    private static void untilSixty(Check check) {
        LayoutOptimizer x = Samples.blocks(20, 4, 1);
        x.test(0, 1, 2);
        x.jump(1, 0);
        check.due("returns in the 58th", x.walk(0, (1 << 28) - 1), 58);
        check.due("returns in the 60th", x.walk(0, (1 << 29) - 1), 60);
        check.due("would return in the 62nd", x.walk(0, (1 << 30) - 1), 60);
        check.due("2 was entered but for the last", x.heatOf(2, -1), 2);
        x.cool();
        x.jump(2, 3);
        check.due("returns in the 59th", x.walk(0, (1 << 28) - 1), 59);
        check.dueHeat("the 59th is entered", x, 3, 1, NONE, NONE);
        check.due("would return in the 61st", x.walk(0, (1 << 29) - 1), 60);
        check.dueHeat("the 61st is not", x, 3, 1, NONE, NONE);
        check.dueHeat("the 60th is", x, 2, 2, 1, NONE);
    }

    private static void counts(Check check) {
        LayoutOptimizer x = Samples.diamond(20);
        check.due("walk(0, 1)", x.walk(0, 1), 3);
        check.due("walk(0, 0)", x.walk(0, 0), 3);
        check.due("walk(0, 3)", x.walk(0, 3), 3);
        check.due("walk(0, -2)", x.walk(0, -2), 3);
        check.due("walk(0, 5)", x.walk(0, 5), 3);
        check.dueHeat("0", x, 0, 5, 3, 2);
        check.dueHeat("1", x, 1, 3, 3, NONE);
        check.dueHeat("2", x, 2, 2, 2, NONE);
        check.dueHeat("3", x, 3, 5, NONE, NONE);
    }

    private static void sixtiethEdge(Check check) {
        LayoutOptimizer x = Samples.blocks(20, 1, 1);
        x.jump(0, 0);
        check.due("walk(0, 0)", x.walk(0, 0), 60);
        check.dueHeat("to itself", x, 0, 60, 59, NONE);
        LayoutOptimizer y = Samples.blocks(20, 2, 1);
        y.jump(0, 1);
        y.test(1, 0, 0);
        check.due("30 tests", y.walk(0, -1), 60);
        check.dueHeat("0 is left each time", y, 0, 30, 30, NONE);
        check.dueHeat("1 but for the last", y, 1, 30, 29, 0);
    }

    /** 2 is never entered, and heats the entry. */
    private static void staysAtMost(Check check) {
        LayoutOptimizer x = Samples.blocks(20, 3, 1);
        x.jump(0, 1);
        x.jump(2, 0);
        for (int b = 0; b <= 2; b += 2) {
            for (int k = 0; k < 9; k++) {
                x.heat(b, 0, 100000);
            }
            x.heat(b, 0, 99998);
        }
        int[] due = {999999, 1000000, 1000000, 1000000};
        for (int count : due) {
            check.due("walk(0, 0)", x.walk(0, 0), 2);
            check.dueHeat("the entry and its edge", x, 0, count, count, NONE);
            check.dueHeat("where it leads", x, 1, count, NONE, NONE);
        }
        LayoutOptimizer y = Samples.blocks(20, 2, 1);
        y.jump(0, 1);
        y.jump(1, 0);
        for (int k = 0; k < 10; k++) {
            y.heat(0, 0, 100000);
            y.heat(1, 0, 99999);
        }
        y.walk(0, 0);
        check.dueHeat("past the most in one walk", y, 0, 1000000, 1000000, NONE);
        check.dueHeat("an edge to the most in one walk", y, 1, 1000000, 1000000, NONE);
    }

    private static void behindLayout(Check check) {
        LayoutOptimizer x = Samples.diamond(22);
        x.walk(0, 1);
        int length = x.layout(1);
        check.due("walk(0, 0)", x.walk(0, 0), 3);
        check.due("walk(0, 0) again", x.walk(0, 0), 3);
        check.dueHeat("counts go on", x, 0, 3, 1, 2);
        check.due("the length stays", x.count(1), length);
        check.dueOrder("the order stays", x, 0, 1, 3, 2);
    }

    private static void noBlock(Check check) {
        LayoutOptimizer x = new LayoutOptimizer(20);
        for (int f = 0; f <= 3; f++) {
            check.due("no blocks: walk(" + f + ", 0)", x.walk(f, 0), REFUSED);
        }
        x.block(2, 1);
        for (int f = 0; f <= 3; f++) {
            check.due("a block of function 2: walk(" + f + ", 0)", x.walk(f, 0), f == 2 ? 1 : REFUSED);
        }
    }

    private static void refusedChangesNothing(Check check) {
        for (int f : new int[] {-1, 4, Integer.MIN_VALUE, Integer.MAX_VALUE}) {
            Unchanged.dueInEveryState(check, "walk(" + f + ", 1)", REFUSED, x -> x.walk(f, 1));
        }
        for (int f : new int[] {1, 3}) {
            dueUnchanged(check, "busy", Samples::busy, f);
            dueUnchanged(check, "laid out by number", () -> Samples.busyLaidOut(0), f);
            dueUnchanged(check, "laid out by chains", () -> Samples.busyLaidOut(1), f);
        }
        for (int f = 0; f <= 3; f++) {
            dueUnchanged(check, "new", () -> new LayoutOptimizer(22), f);
        }
    }

    private static void dueUnchanged(Check check, String when, Supplier<LayoutOptimizer> state, int f) {
        Unchanged.due(check, when + ": walk(" + f + ", 1)", REFUSED, state, x -> x.walk(f, 1));
    }
}

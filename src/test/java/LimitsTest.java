import java.util.ArrayList;
import java.util.List;

/** Promise 16: every call with numbers out of range, before and behind a layout, and that it changes nothing. */
public final class LimitsTest {
    private static final int REFUSED = LayoutOptimizer.REFUSED;
    private static final int NONE = LayoutOptimizer.NONE;
    private static final int[] FAR = {Integer.MIN_VALUE, -2, 24, 25, 48, 100, Integer.MAX_VALUE};

    /** A call with one number out of its range and all others in theirs. */
    private interface Call {
        int of(LayoutOptimizer x, int far);
    }

    private static final Call[] ARE_REFUSED = {
        (x, far) -> x.block(far, 1), (x, far) -> x.block(0, far > 40 ? far : -far - 2),
        (x, far) -> x.jump(far, 0), (x, far) -> x.jump(0, far),
        (x, far) -> x.test(far, 0, 0), (x, far) -> x.test(0, far, 0), (x, far) -> x.test(0, 0, far),
        (x, far) -> x.walk(far, 1), (x, far) -> x.cost(far, 1),
        (x, far) -> x.heat(far, 0, 1), (x, far) -> x.heat(0, far, 1), (x, far) -> x.heat(0, 0, far > 0 ? 100000 + far : far),
        (x, far) -> x.layout(far), (x, far) -> x.count(far)};

    private static final Call[] ARE_NONE = {
        (x, far) -> x.at(far), (x, far) -> x.address(far),
        (x, far) -> x.branch(far, 0), (x, far) -> x.branch(0, far),
        (x, far) -> x.target(far, 0), (x, far) -> x.target(0, far),
        (x, far) -> x.heatOf(far, -1), (x, far) -> x.heatOf(far, 0), (x, far) -> x.heatOf(0, far)};

    public static void main(String[] args) {
        Check check = new Check();
        for (int state = 0; state < 4; state++) {
            goThrough(check, state, ARE_REFUSED, REFUSED);
            goThrough(check, state, ARE_NONE, NONE);
        }
        orderOfRefusals(check);
        check.end();
    }

    private static void goThrough(Check check, int state, Call[] calls, int due) {
        List<Integer> before = seen(inState(state));
        for (int c = 0; c < calls.length; c++) {
            for (int far : FAR) {
                LayoutOptimizer x = inState(state);
                check.due("state " + state + ", due " + due + ", call " + c + ", " + far, calls[c].of(x, far), due);
                check.dueTrue("state " + state + ", due " + due + ", call " + c + ", " + far + " changes nothing",
                        seen(x).equals(before));
            }
        }
    }

    /** New; with blocks, edges and counts; that laid out by number; and by chains. */
    private static LayoutOptimizer inState(int state) {
        if (state == 0) {
            return new LayoutOptimizer(22);
        }
        LayoutOptimizer x = Samples.diamond(22);
        x.block(2, 5);
        x.walk(0, 1);
        x.heat(0, 1, 3);
        if (state > 1) {
            x.layout(state - 2);
        }
        return x;
    }

    /** All that can be asked, and then what changes by asking. */
    private static List<Integer> seen(LayoutOptimizer x) {
        List<Integer> seen = new ArrayList<>();
        for (int what = 0; what <= 5; what++) {
            seen.add(x.count(what));
        }
        for (int b = 0; b <= 6; b++) {
            seen.add(x.at(b));
            seen.add(x.address(b));
            for (int e = -1; e <= 1; e++) {
                seen.add(x.heatOf(b, e));
                seen.add(x.branch(b, e));
                seen.add(x.target(b, e));
            }
        }
        seen.add(x.cost(0, 1));
        seen.add(x.block(0, 1));
        seen.add(x.layout(1));
        seen.add(x.at(1));
        return seen;
    }

    /** A number out of its range is refused before it is looked at whether there is room. */
    private static void orderOfRefusals(Check check) {
        LayoutOptimizer x = Samples.blocks(4, 24, 1);
        check.due("full", x.block(0, 1), LayoutOptimizer.FULL);
        check.due("full: block(0, 0)", x.block(0, 0), REFUSED);
        check.due("full: block(4, 1)", x.block(4, 1), REFUSED);
        check.due("mode 2 of no blocks", new LayoutOptimizer(4).layout(2), REFUSED);
        check.due("24 is no block of 24", x.jump(24, 0), REFUSED);
        check.due("23 is one", x.jump(23, 0), 0);
        check.due("heat(23, 0, 100000)", x.heat(23, 0, 100000), 100000);
        check.due("heatOf(23, 0)", x.heatOf(23, 0), 100000);
    }
}

import java.util.LinkedHashMap;
import java.util.Map;
import java.util.function.Supplier;

/** Promise 16, and what the document says of all calls. */
public final class OrderAndLimitsTest {
    private static final int REFUSED = LayoutOptimizer.REFUSED;
    private static final int NONE = LayoutOptimizer.NONE;
    private static final int MIN = Integer.MIN_VALUE;
    private static final int MAX = Integer.MAX_VALUE;
    private static final int MOST_CALLS = 512;

    /** A call with one number to be filled in and all others in their ranges. */
    private interface Call {
        int with(LayoutOptimizer x, int number);
    }

    public static void main(String[] args) {
        Check check = new Check("Promise 16, Order and limits");
        check.test("Numbers out of their ranges are REFUSED in every call", OrderAndLimitsTest::refused);
        check.test("but at, address, branch, target and heatOf, which answer NONE then", OrderAndLimitsTest::none);
        check.test("block numbers end where the blocks end", OrderAndLimitsTest::blockNumbers);
        check.test("more than one number out of its range", OrderAndLimitsTest::severalWrong);
        check.test("a number out of its range is REFUSED, though 24 blocks are FULL", OrderAndLimitsTest::beforeFull);
        check.test("any number of holds is in its range", OrderAndLimitsTest::anyHolds);
        check.test("no call throws, whatever the numbers", OrderAndLimitsTest::neverThrows);
        check.test("An object is used for at most 512 calls", OrderAndLimitsTest::lastCall);
        check.end();
    }

    /** That the call with each of the numbers answers so in every state, and changes nothing. */
    private static void due(Check check, String call, int due, Call with, int... numbers) {
        for (int number : numbers) {
            Unchanged.dueInEveryState(check, call.replace("?", "" + number), due, x -> with.with(x, number));
        }
    }

    private static void refused(Check check) {
        due(check, "block(?, 1)", REFUSED, (x, f) -> x.block(f, 1), -1, 4, MIN, MAX);
        due(check, "block(0, ?)", REFUSED, (x, body) -> x.block(0, body), 0, -1, 41, MIN, MAX);
        due(check, "jump(?, 0)", REFUSED, (x, b) -> x.jump(b, 0), -1, 24, MIN, MAX);
        due(check, "jump(0, ?)", REFUSED, (x, y) -> x.jump(0, y), -1, 24, MIN, MAX);
        due(check, "test(?, 0, 0)", REFUSED, (x, b) -> x.test(b, 0, 0), -1, 24, MIN, MAX);
        due(check, "test(0, ?, 0)", REFUSED, (x, y) -> x.test(0, y, 0), -1, 24, MIN, MAX);
        due(check, "test(0, 0, ?)", REFUSED, (x, y) -> x.test(0, 0, y), -1, 24, MIN, MAX);
        due(check, "walk(?, 1)", REFUSED, (x, f) -> x.walk(f, 1), -1, 4, MIN, MAX);
        due(check, "heat(?, 0, 1)", REFUSED, (x, b) -> x.heat(b, 0, 1), -1, 24, MIN, MAX);
        due(check, "heat(0, ?, 1)", REFUSED, (x, e) -> x.heat(0, e, 1), -1, 2, MIN, MAX);
        due(check, "heat(0, 0, ?)", REFUSED, (x, n) -> x.heat(0, 0, n), 0, -1, 100001, MIN, MAX);
        due(check, "layout(?)", REFUSED, (x, mode) -> x.layout(mode), -1, 2, MIN, MAX);
        due(check, "cost(?, 1)", REFUSED, (x, f) -> x.cost(f, 1), -1, 4, MIN, MAX);
        due(check, "count(?)", REFUSED, (x, what) -> x.count(what), -1, 6, MIN, MAX);
    }

    private static void none(Check check) {
        due(check, "at(?)", NONE, (x, k) -> x.at(k), -1, 24, MIN, MAX);
        due(check, "address(?)", NONE, (x, b) -> x.address(b), -1, 24, MIN, MAX);
        due(check, "branch(?, 0)", NONE, (x, b) -> x.branch(b, 0), -1, 24, MIN, MAX);
        due(check, "branch(0, ?)", NONE, (x, i) -> x.branch(0, i), -1, 2, MIN, MAX);
        due(check, "target(?, 0)", NONE, (x, b) -> x.target(b, 0), -1, 24, MIN, MAX);
        due(check, "target(0, ?)", NONE, (x, i) -> x.target(0, i), -1, 2, MIN, MAX);
        due(check, "heatOf(?, -1)", NONE, (x, b) -> x.heatOf(b, -1), -1, 24, MIN, MAX);
        due(check, "heatOf(?, 0)", NONE, (x, b) -> x.heatOf(b, 0), -1, 24, MIN, MAX);
        due(check, "heatOf(0, ?)", NONE, (x, e) -> x.heatOf(0, e), -2, 2, MIN, MAX);
    }

    /** The number that the next block would get is out of range, as 24 is for 24 blocks. */
    private static void blockNumbers(Check check) {
        for (Map.Entry<String, Supplier<LayoutOptimizer>> state : Samples.states().entrySet()) {
            LayoutOptimizer x = state.getValue().get();
            int behind = x.count(0);
            String when = state.getKey() + ", block " + behind;
            check.due(when + ": jump", x.jump(behind, behind), REFUSED);
            check.due(when + ": test", x.test(behind, behind, behind), REFUSED);
            check.due(when + ": heat", x.heat(behind, 0, 1), REFUSED);
            check.due(when + ": at", x.at(behind), NONE);
            check.due(when + ": address", x.address(behind), NONE);
            check.due(when + ": branch", x.branch(behind, 0), NONE);
            check.due(when + ": target", x.target(behind, 0), NONE);
            check.dueHeat(when, x, behind, NONE, NONE, NONE);
        }
    }

    private static void severalWrong(Check check) {
        for (int number : new int[] {-2, 100001, MIN, MAX}) {
            Map<String, Call> refused = new LinkedHashMap<>();
            refused.put("block", (x, n) -> x.block(n, n));
            refused.put("jump", (x, n) -> x.jump(n, n));
            refused.put("test", (x, n) -> x.test(n, n, n));
            refused.put("walk", (x, n) -> x.walk(n, n));
            refused.put("heat", (x, n) -> x.heat(n, n, n));
            refused.put("cost", (x, n) -> x.cost(n, n));
            refused.forEach((name, call) -> due(check, name + " of ?", REFUSED, call, number));
            Map<String, Call> none = new LinkedHashMap<>();
            none.put("branch", (x, n) -> x.branch(n, n));
            none.put("target", (x, n) -> x.target(n, n));
            none.put("heatOf", (x, n) -> x.heatOf(n, n));
            none.forEach((name, call) -> due(check, name + " of ?", NONE, call, number));
        }
    }

    private static void beforeFull(Check check) {
        LayoutOptimizer x = Samples.full();
        check.due("block(0, 1)", x.block(0, 1), LayoutOptimizer.FULL);
        check.due("block(0, 0)", x.block(0, 0), REFUSED);
        check.due("block(0, 41)", x.block(0, 41), REFUSED);
        check.due("block(-1, 1)", x.block(-1, 1), REFUSED);
        check.due("block(4, 1)", x.block(4, 1), REFUSED);
    }

    private static void anyHolds(Check check) {
        LayoutOptimizer x = Samples.diamond(31);
        x.layout(0);
        for (int holds : new int[] {0, 1, -1, MIN, MAX, 31, 32, 1 << 30}) {
            check.due("walk(0, " + holds + ")", x.walk(0, holds), 3);
            check.due("cost(0, " + holds + ")", x.cost(0, holds), holds % 2 == 0 ? 2 + 0 + 1 : 1 + 2 + 1);
        }
    }

    private static void neverThrows(Check check) {
        int[] numbers = {MIN, MIN + 1, -25, -4, -3, -2, -1, 0, 1, 2, 3, 4, 5, 23, 24, 25, 47, 48, 59, 60, 61,
            MAX - 1, MAX};
        for (Supplier<LayoutOptimizer> state : Samples.states().values()) {
            for (int p : numbers) {
                for (int q : numbers) {
                    LayoutOptimizer x = state.get();
                    new LayoutOptimizer(p).cool();
                    int[] answers = {x.at(p), x.address(p), x.branch(p, q), x.target(p, q), x.heatOf(p, q), x.count(p),
                        x.cost(p, q), x.heat(p, q, 1), x.heat(0, p, q), x.walk(p, q), x.jump(p, q), x.test(p, q, p),
                        x.test(0, p, q), x.block(p, q), x.layout(p), x.cool(), x.layout(q), x.cost(p, q)};
                    for (int answer : answers) {
                        check.dueTrue("an answer of " + p + " and " + q + " is no less than NONE", answer >= NONE);
                    }
                }
            }
        }
    }

    /** The 512th call still answers as due; later ones are free, but the language's rules let none throw. */
    private static void lastCall(Check check) {
        LayoutOptimizer x = Samples.blocks(20, 2, 1);
        x.jump(0, 1);
        for (int call = 4; call < MOST_CALLS; call++) {
            check.due("call " + call + ", heat", x.heat(0, 0, 1), call - 3);
        }
        check.due("call 512, heat", x.heat(0, 0, 1), MOST_CALLS - 3);
        LayoutOptimizer y = Samples.busy();
        for (int call = 20; call < MOST_CALLS; call++) {
            y.layout(call % 2);
        }
        check.due("call 512, layout", y.layout(1), Samples.busy().layout(1));
        for (int call = 0; call < MOST_CALLS; call++) {
            y.layout(call % 2);
            y.walk(0, call);
        }
    }
}

/** Promise 7. */
public final class CoolTest {
    public static void main(String[] args) {
        Check check = new Check();
        clears(check);
        leavesTheRest(check);
        check.end();
    }

    private static void clears(Check check) {
        check.due("cool() of nothing", new LayoutOptimizer(4).cool(), 0);
        LayoutOptimizer x = Samples.blocks(20, 24, 1);
        for (int b = 0; b < 24; b++) {
            x.test(b, (b + 1) % 24, b);
            x.heat(b, 0, 5);
            x.heat(b, 1, 6);
        }
        check.due("cool()", x.cool(), 0);
        for (int b = 0; b < 24; b++) {
            for (int e = -1; e <= 1; e++) {
                check.due("heatOf(" + b + ", " + e + ")", x.heatOf(b, e), 0);
            }
        }
    }

    private static void leavesTheRest(Check check) {
        LayoutOptimizer x = Samples.diamond(20);
        x.heat(0, 1, 9);
        x.heat(2, 0, 9);
        int length = x.layout(1);
        check.dueOrder("hot", x, 0, 2, 3, 1);
        check.due("cool()", x.cool(), 0);
        check.due("the length stays", x.count(1), length);
        check.due("cold blocks stay", x.count(4), 1);
        check.dueOrder("cooled", x, 0, 2, 3, 1);
        check.due("the ends stay", x.walk(0, 0), 3);
        x.cool();
        x.layout(1);
        check.dueOrder("laid out cold", x, 0, 1, 2, 3);
        check.due("all but the entry are cold", x.count(4), 3);
    }
}

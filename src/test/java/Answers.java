import java.util.ArrayList;
import java.util.List;

/** What an object answers to a row of calls, to be held against what another one answers to the same. */
final class Answers {
    private static final int[] HOLDS = {0, 5};

    private final List<String> calls = new ArrayList<>();
    private final List<Integer> values = new ArrayList<>();
    private final LayoutOptimizer x;
    private final int blocks;

    private Answers(LayoutOptimizer x) {
        this.x = x;
        this.blocks = x.count(0);
    }

    /** The ways to look at an object; each wants an object of its own, for together they pass its 512 calls. */
    enum Look { AS_IT_IS, GO_ON_WALKING, GO_ON_BUILDING, LAY_OUT_BY_NUMBER, LAY_OUT_BY_CHAINS }

    static Answers to(Look look, LayoutOptimizer x) {
        Answers answers = new Answers(x);
        switch (look) {
            case AS_IT_IS -> answers.ask();
            case GO_ON_WALKING -> answers.goOnWalking();
            case GO_ON_BUILDING -> answers.goOnBuilding();
            case LAY_OUT_BY_NUMBER -> answers.layOut(0);
            case LAY_OUT_BY_CHAINS -> answers.layOut(1);
        }
        return answers;
    }

    void due(Check check, String when, Answers want) {
        check.due(when + ": as many answers", values.size(), want.values.size());
        for (int k = 0; k < Math.min(values.size(), want.values.size()); k++) {
            check.due(when + ", then " + calls.get(k), values.get(k), want.values.get(k));
        }
    }

    private void add(String call, int value) {
        calls.add(call);
        values.add(value);
    }

    private void ask() {
        for (int what = 0; what <= 5; what++) {
            add("count(" + what + ")", x.count(what));
        }
        for (int b = 0; b <= blocks; b++) {
            add("at(" + b + ")", x.at(b));
            add("address(" + b + ")", x.address(b));
            for (int i = 0; i <= 1; i++) {
                add("branch(" + b + ", " + i + ")", x.branch(b, i));
                add("target(" + b + ", " + i + ")", x.target(b, i));
            }
        }
        askHeat();
        for (int f = 0; f <= 3; f++) {
            for (int holds : HOLDS) {
                add("cost(" + f + ", " + holds + ")", x.cost(f, holds));
            }
        }
    }

    private void askHeat() {
        for (int b = 0; b <= blocks; b++) {
            for (int e = -1; e <= 1; e++) {
                add("heatOf(" + b + ", " + e + ")", x.heatOf(b, e));
            }
        }
    }

    private void goOnWalking() {
        for (int f = 0; f <= 3; f++) {
            for (int holds : HOLDS) {
                add("walk(" + f + ", " + holds + ")", x.walk(f, holds));
            }
        }
        for (int b = 0; b <= blocks; b++) {
            for (int e = 0; e <= 1; e++) {
                add("heat(" + b + ", " + e + ", 9)", x.heat(b, e, 9));
            }
        }
        askHeat();
    }

    private void goOnBuilding() {
        for (int f = 0; f <= 3; f++) {
            add("block(" + f + ", 7)", x.block(f, 7));
            add("walk(" + f + ", 0)", x.walk(f, 0));
        }
        for (int b = 0; b <= blocks; b++) {
            add("jump(" + b + ", " + b + ")", x.jump(b, b));
            add("test(" + b + ", 0, 1)", x.test(b, 0, 1));
        }
        add("layout(0)", x.layout(0));
        for (int b = 0; b <= blocks + 4; b++) {
            add("address(" + b + ")", x.address(b));
        }
    }

    private void layOut(int mode) {
        add("layout(" + mode + ")", x.layout(mode));
        ask();
    }
}

import java.util.function.Consumer;

/**
 * The tests of one promise, each named by the document's words that it holds the class to. The program
 * ends with exit code 1 if an answer was not as due.
 */
final class Check {
    private final String promise;
    private int seen = 0;
    private int wrong = 0;
    private int passed = 0;
    private int failed = 0;

    Check(String promise) {
        this.promise = promise;
    }

    void test(String words, Consumer<Check> body) {
        seen = 0;
        wrong = 0;
        body.accept(this);
        // A test that asks nothing would pass whatever the class does.
        boolean good = seen > 0 && wrong == 0;
        System.out.println((good ? "  ok      " : "  FAILED  ") + promise + ": " + words);
        passed += good ? 1 : 0;
        failed += good ? 0 : 1;
    }

    void due(String call, int got, int want) {
        seen++;
        if (got != want) {
            wrong++;
            System.out.println("  " + call + " answered " + got + ", due is " + want);
        }
    }

    void dueTrue(String what, boolean holds) {
        due(what, holds ? 1 : 0, 1);
    }

    /** The order of all blocks in the layout, and that nothing is placed before or behind them. */
    void dueOrder(String when, LayoutOptimizer x, int... want) {
        due(when + ": at(-1)", x.at(-1), LayoutOptimizer.NONE);
        for (int k = 0; k < want.length; k++) {
            due(when + ": at(" + k + ")", x.at(k), want[k]);
        }
        due(when + ": at(" + want.length + ")", x.at(want.length), LayoutOptimizer.NONE);
    }

    /** The counts of a block, of its edge 0 and of its edge 1. */
    void dueHeat(String when, LayoutOptimizer x, int block, int own, int first, int second) {
        due(when + ": heatOf(" + block + ", -1)", x.heatOf(block, -1), own);
        due(when + ": heatOf(" + block + ", 0)", x.heatOf(block, 0), first);
        due(when + ": heatOf(" + block + ", 1)", x.heatOf(block, 1), second);
    }

    void end() {
        if (failed != 0 || passed == 0) {
            System.out.println("  " + promise + ": " + failed + " of " + (passed + failed) + " tests failed");
            System.exit(1);
        }
    }
}

/** Compares answers with those that are due, and ends a test with exit code 1 if one was wrong. */
final class Check {
    private int seen = 0;
    private int wrong = 0;

    void due(String call, int got, int want) {
        seen++;
        if (got != want) {
            wrong++;
            System.out.println(call + " answered " + got + ", due is " + want);
        }
    }

    void dueTrue(String what, boolean holds) {
        due(what, holds ? 1 : 0, 1);
    }

    /** The order of all blocks in the layout, and that nothing is placed behind the last. */
    void dueOrder(String when, LayoutOptimizer x, int... want) {
        for (int k = 0; k < want.length; k++) {
            due(when + ": at(" + k + ")", x.at(k), want[k]);
        }
        due(when + ": at(" + want.length + ")", x.at(want.length), LayoutOptimizer.NONE);
    }

    void end() {
        if (seen == 0 || wrong != 0) {
            System.out.println(wrong + " of " + seen + " answers are not as due");
            System.exit(1);
        }
    }
}

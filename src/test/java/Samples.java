import java.util.LinkedHashMap;
import java.util.Map;
import java.util.function.Supplier;

/** Small programs that several tests start from. */
final class Samples {
    private Samples() {
    }

    /**
     * One function: 0 tests and goes to 1 or 2, both of which jump to 3.
     * By number it is 0 at 0 with a turned branch to 2 at 10, 1 at 11 with a branch to 3 at 31,
     * 2 at 32 without a branch, and 3 at 62: the branches go over 22 and 31 units.
     */
    static LayoutOptimizer diamond(int range) {
        LayoutOptimizer x = new LayoutOptimizer(range);
        x.block(0, 10);
        x.block(0, 20);
        x.block(0, 30);
        x.block(0, 5);
        x.test(0, 1, 2);
        x.jump(1, 3);
        x.jump(2, 3);
        return x;
    }

    /**
     * One function of four bodies of 1: 0 tests and goes to 2 or 3, the others return.
     * By number both branches stand at 1 and 2 and go over 4 and 5 units.
     */
    static LayoutOptimizer fork(int range) {
        LayoutOptimizer x = blocks(range, 4, 1);
        x.test(0, 2, 3);
        return x;
    }

    /** As many blocks of function 0, all of the same body, that return. */
    static LayoutOptimizer blocks(int range, int howMany, int body) {
        LayoutOptimizer x = new LayoutOptimizer(range);
        for (int b = 0; b < howMany; b++) {
            x.block(0, body);
        }
        return x;
    }

    /** Blocks of function 0 with these bodies, that return. */
    static LayoutOptimizer bodies(int range, int... bodies) {
        LayoutOptimizer x = new LayoutOptimizer(range);
        for (int body : bodies) {
            x.block(0, body);
        }
        return x;
    }

    /** Blocks 0 to 3 of function 0 and 4 and 5 of function 2, with no edges. */
    static LayoutOptimizer twoFunctions() {
        LayoutOptimizer x = blocks(100, 4, 3);
        x.block(2, 4);
        x.block(2, 5);
        return x;
    }

    /** Blocks 0 to 4 of function 0 and 5 and 6 of function 2, every kind of end, every edge with another count. */
    static LayoutOptimizer busy() {
        LayoutOptimizer x = bodies(22, 10, 20, 30, 5, 7);
        x.block(2, 6);
        x.block(2, 9);
        x.test(0, 1, 2);
        x.jump(1, 3);
        x.test(2, 3, 4);
        x.jump(3, 0);
        x.jump(5, 6);
        x.heat(0, 0, 3);
        x.heat(0, 1, 5);
        x.heat(1, 0, 2);
        x.heat(2, 0, 4);
        x.heat(2, 1, 1);
        x.heat(3, 0, 6);
        x.heat(5, 0, 7);
        return x;
    }

    /** A layout of busy() with counts that have changed since, so that another layout would be another one. */
    static LayoutOptimizer busyLaidOut(int mode) {
        LayoutOptimizer x = busy();
        x.layout(mode);
        x.heat(0, 0, 50);
        x.heat(1, 0, 60);
        x.heat(2, 1, 70);
        return x;
    }

    /** 24 blocks of function 1 that each test, with counts. */
    static LayoutOptimizer full() {
        LayoutOptimizer x = new LayoutOptimizer(22);
        for (int b = 0; b < 24; b++) {
            x.block(1, 1 + b);
        }
        for (int b = 0; b < 24; b++) {
            x.test(b, (b + 7) % 24, (b + 2) % 24);
            x.heat(b, 0, 1 + b % 5);
        }
        return x;
    }

    static LayoutOptimizer fullLaidOut() {
        LayoutOptimizer x = full();
        x.layout(1);
        return x;
    }

    /** Ways to an object in every kind of state, by name. */
    static Map<String, Supplier<LayoutOptimizer>> states() {
        Map<String, Supplier<LayoutOptimizer>> states = new LinkedHashMap<>();
        states.put("new", () -> new LayoutOptimizer(22));
        states.put("busy", Samples::busy);
        states.put("laid out by number", () -> busyLaidOut(0));
        states.put("laid out by chains", () -> busyLaidOut(1));
        states.put("full", Samples::full);
        states.put("full and laid out", Samples::fullLaidOut);
        return states;
    }
}

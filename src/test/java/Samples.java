/** Small programs that several tests start from. */
final class Samples {
    private Samples() {
    }

    /**
     * One function: 0 tests and goes to 1 or 2, both of which jump to 3.
     * By number it is 0 at 0 with a turned branch to 2 at 10, 1 at 11 with a branch to 3 at 31,
     * 2 at 32 without a branch, and 3 at 62: the branches go over 22 and 31 units.
     */
    static LayoutOptimizer diamond(int range) {
        LayoutOptimizer x = new LayoutOptimizer(range);
        x.block(0, 10);
        x.block(0, 20);
        x.block(0, 30);
        x.block(0, 5);
        x.test(0, 1, 2);
        x.jump(1, 3);
        x.jump(2, 3);
        return x;
    }

    /**
     * One function of four bodies of 1: 0 tests and goes to 2 or 3, the others return.
     * By number both branches stand at 1 and 2 and go over 4 and 5 units.
     */
    static LayoutOptimizer fork(int range) {
        LayoutOptimizer x = blocks(range, 4, 1);
        x.test(0, 2, 3);
        return x;
    }

    /** As many blocks of function 0, all of the same body, that return. */
    static LayoutOptimizer blocks(int range, int howMany, int body) {
        LayoutOptimizer x = new LayoutOptimizer(range);
        for (int b = 0; b < howMany; b++) {
            x.block(0, body);
        }
        return x;
    }

    /** Blocks 0 to 3 of function 0 and 4 and 5 of function 2, with no edges. */
    static LayoutOptimizer twoFunctions() {
        LayoutOptimizer x = blocks(100, 4, 3);
        x.block(2, 4);
        x.block(2, 5);
        return x;
    }
}

/** Promise 8: the lengths, the places of both modes, and which branches get long. */
public final class LayoutTest {
    public static void main(String[] args) {
        Check check = new Check();
        lengths(check);
        refuses(check);
        edgesInTurn(check);
        joinsOnlyEnds(check);
        neverBehindABlock(check);
        warmth(check);
        warmthOfChains(check);
        warmthOfGreatSums(check);
        functionsAndCold(check);
        hotFunctionsInTurn(check);
        madeAnew(check);
        check.end();
    }

    private static void lengths(Check check) {
        check.due("31 reaches all", Samples.diamond(31).layout(0), 68);
        check.due("30 misses one", Samples.diamond(30).layout(0), 69);
        check.due("23 misses one", Samples.diamond(23).layout(0), 69);
        check.due("22 misses one and then, since that grew, the other", Samples.diamond(22).layout(0), 70);
        check.due("21 misses both", Samples.diamond(21).layout(0), 70);
        check.due("fork, 5", Samples.fork(5).layout(0), 9);
        check.due("fork, 4", Samples.fork(4).layout(0), 11);
        check.due("one block", Samples.blocks(4, 1, 40).layout(1), 41);
        check.due("24 blocks", Samples.blocks(4, 24, 40).layout(1), 24 * 41);
    }

    private static void refuses(Check check) {
        LayoutOptimizer x = new LayoutOptimizer(22);
        check.due("no blocks: layout(0)", x.layout(0), LayoutOptimizer.REFUSED);
        check.due("no blocks: layout(1)", x.layout(1), LayoutOptimizer.REFUSED);
        check.due("not laid out", x.block(0, 1), 0);
        int[] wrongModes = {-1, 2, Integer.MIN_VALUE, Integer.MAX_VALUE};
        for (int mode : wrongModes) {
            check.due("layout(" + mode + ")", x.layout(mode), LayoutOptimizer.REFUSED);
        }
        check.due("still not laid out", x.at(0), LayoutOptimizer.NONE);
        LayoutOptimizer y = Samples.diamond(22);
        y.heat(0, 1, 1);
        y.layout(0);
        for (int mode : wrongModes) {
            check.due("laid out: layout(" + mode + ")", y.layout(mode), LayoutOptimizer.REFUSED);
            check.due("the layout stays", y.count(1), 70);
            check.dueOrder("the layout stays", y, 0, 1, 2, 3);
        }
    }

    /** Greater counts first; of equal ones the lesser block, then edge 0. */
    private static void edgesInTurn(Check check) {
        LayoutOptimizer x = Samples.diamond(50);
        x.heat(0, 0, 4);
        x.heat(0, 1, 4);
        x.heat(1, 0, 4);
        x.heat(2, 0, 4);
        x.layout(1);
        check.dueOrder("all equal: edge 0 of 0, then 1 to 3", x, 0, 1, 3, 2);
        x.heat(0, 1, 1);
        x.layout(1);
        check.dueOrder("edge 1 of 0 greater, 1 to 3 all the same", x, 0, 2, 1, 3);
        x.heat(2, 0, 1);
        x.layout(1);
        check.dueOrder("2 to 3 greater too", x, 0, 2, 3, 1);
    }

    /** 1 and 2 both jump to 3, and 3 jumps to both in vain: it is taken, or behind a block already. */
    private static void joinsOnlyEnds(Check check) {
        LayoutOptimizer x = Samples.blocks(50, 5, 2);
        x.jump(1, 3);
        x.jump(2, 3);
        x.test(3, 1, 4);
        x.test(4, 4, 2);
        x.heat(1, 0, 90);
        x.heat(2, 0, 80);
        x.heat(3, 0, 70);
        x.heat(4, 0, 60);
        x.heat(3, 1, 50);
        x.layout(1);
        check.dueOrder("3 is behind 1, and 1 not behind 3", x, 0, 1, 3, 4, 2);
        check.due("chains", x.count(5), 3);
        x.heat(4, 1, 1);
        x.layout(1);
        check.dueOrder("edges of count 0 join nothing, of count 1 they do", x, 0, 1, 3, 4, 2);
        check.due("chains, one less", x.count(5), 2);
    }

    private static void neverBehindABlock(Check check) {
        LayoutOptimizer x = Samples.blocks(50, 3, 2);
        x.block(1, 1);
        x.block(1, 1);
        x.jump(1, 0);
        x.jump(2, 1);
        x.jump(4, 3);
        x.heat(1, 0, 1000);
        x.heat(2, 0, 10);
        x.heat(4, 0, 1000);
        x.layout(1);
        check.dueOrder("an entry begins its chain", x, 0, 2, 1, 3, 4);
        check.due("chains", x.count(5), 4);
        check.due("4 has count 0", x.count(4), 1);
    }

    /** Quotients that are the same when cut to whole numbers, and equal ones. */
    private static void warmth(Check check) {
        LayoutOptimizer x = new LayoutOptimizer(50);
        for (int body : new int[] {1, 3, 2, 40, 6, 4}) {
            x.block(0, body);
        }
        // Each is heated by an edge from itself, which joins nothing.
        for (int b = 1; b <= 5; b++) {
            x.jump(b, b);
        }
        x.heat(1, 0, 4);
        x.heat(2, 0, 3);
        x.heat(3, 0, 79);
        x.heat(4, 0, 8);
        x.heat(5, 0, 6);
        x.layout(1);
        check.dueOrder("79/40, 3/2, 6/4, 4/3, 8/6", x, 0, 3, 2, 5, 1, 4);
        check.due("chains", x.count(5), 6);
        check.due("cold blocks", x.count(4), 0);
    }

    /** 10 over 40 is less warm than 2 over 2, though the first block alone would be warmer. */
    private static void warmthOfChains(Check check) {
        LayoutOptimizer x = new LayoutOptimizer(50);
        for (int body : new int[] {1, 1, 39, 2}) {
            x.block(0, body);
        }
        x.jump(1, 2);
        x.jump(3, 3);
        x.heat(1, 0, 10);
        x.heat(3, 0, 2);
        x.layout(1);
        check.dueOrder("bodies are summed", x, 0, 3, 1, 2);
        x.heat(1, 0, 31);
        x.layout(1);
        check.dueOrder("counts are summed", x, 0, 1, 2, 3);
    }

    /** 6000000 over 7 is warmer than 11 over 480, though 6000000 * 480 passes an int. */
    private static void warmthOfGreatSums(Check check) {
        LayoutOptimizer x = Samples.blocks(50, 1, 1);
        addChain(x, 12, 40, 1, 1);
        addChain(x, 7, 1, 100000, 10);
        x.layout(1);
        check.dueOrder("the hot behind", x, 0, 13, 14, 15, 16, 17, 18, 19, 1, 2, 3, 4, 5, 6, 7, 8, 9, 10, 11, 12);
        check.due("chains", x.count(5), 3);
        LayoutOptimizer y = Samples.blocks(50, 1, 1);
        addChain(y, 7, 1, 100000, 10);
        addChain(y, 12, 40, 1, 1);
        y.layout(1);
        check.dueOrder("the hot before", y, 0, 1, 2, 3, 4, 5, 6, 7, 8, 9, 10, 11, 12, 13, 14, 15, 16, 17, 18, 19);
    }

    /** Blocks of one body, each of which jumps to the next, with all these edges heated so often by so much. */
    private static void addChain(LayoutOptimizer x, int blocks, int body, int heat, int times) {
        int last = x.block(0, body);
        for (int k = 1; k < blocks; k++) {
            int made = x.block(0, body);
            x.jump(last, made);
            for (int t = 0; t < times; t++) {
                x.heat(last, 0, heat);
            }
            last = made;
        }
    }

    /** Blocks of functions 3, 1, 3, 1, 1, 3: each second last one is warm. */
    private static void functionsAndCold(Check check) {
        LayoutOptimizer x = new LayoutOptimizer(50);
        for (int f : new int[] {3, 1, 3, 1, 1, 3}) {
            x.block(f, 5);
        }
        x.jump(4, 4);
        x.heat(4, 0, 1);
        x.layout(1);
        check.dueOrder("cold ones apart", x, 1, 4, 0, 3, 2, 5);
        check.due("cold blocks", x.count(4), 3);
        x.layout(0);
        check.dueOrder("by number", x, 0, 1, 2, 3, 4, 5);
    }

    /** A later function's greater warmth does not move it forward, nor any block before the entry. */
    private static void hotFunctionsInTurn(Check check) {
        LayoutOptimizer x = new LayoutOptimizer(50);
        for (int f : new int[] {2, 2, 0, 0}) {
            x.block(f, 5);
        }
        x.jump(1, 1);
        x.jump(3, 3);
        x.heat(1, 0, 9000);
        x.heat(3, 0, 1);
        x.layout(1);
        check.dueOrder("functions in turn", x, 2, 3, 0, 1);
    }

    /** A layout goes by the counts at its call. */
    private static void madeAnew(Check check) {
        LayoutOptimizer x = Samples.diamond(400);
        x.heat(0, 1, 2);
        check.due("layout(1)", x.layout(1), 68);
        check.dueOrder("hot", x, 0, 2, 1, 3);
        x.heat(1, 0, 3);
        x.heat(0, 0, 3);
        check.dueOrder("more heat changes no layout", x, 0, 2, 1, 3);
        check.due("layout(1) again", x.layout(1), 68);
        check.dueOrder("anew", x, 0, 1, 3, 2);
        check.due("layout(0)", x.layout(0), 68);
        check.dueOrder("by number", x, 0, 1, 2, 3);
    }
}

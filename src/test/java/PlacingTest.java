/** Promise 8: the places that it gives, by the terms PLACING, CHAINS, COLD and WARMTH. */
public final class PlacingTest {
    public static void main(String[] args) {
        Check check = new Check("Promise 8, layout, its PLACING");
        check.test("Mode 0: by number", PlacingTest::byNumber);
        check.test("At first each block is a chain alone", PlacingTest::chainsAlone);
        check.test("edges in the order of greater count first", PlacingTest::greaterFirst);
        check.test("of equal counts the lesser block", PlacingTest::lesserBlock);
        check.test("then edge 0 before edge 1", PlacingTest::edgeZeroBefore);
        check.test("edges with count 0 are left out", PlacingTest::countZero);
        check.test("edges from a block to itself are left out", PlacingTest::toItself);
        check.test("the chain that ends with x, if there is such", PlacingTest::endsWith);
        check.test("the one that begins with y, if there is such", PlacingTest::beginsWith);
        check.test("they are not the same", PlacingTest::notTheSame);
        check.test("y is not the ENTRY", PlacingTest::notTheEntry);
        check.test("chains are joined whole, x before y", PlacingTest::joinedWhole);
        check.test("COLD if all its blocks have count 0", PlacingTest::coldByCount);
        check.test("and the ENTRY is not in it", PlacingTest::entryIsNotCold);
        check.test("the chain with the ENTRY comes first", PlacingTest::entryFirst);
        check.test("greater WARMTH first", PlacingTest::warmerFirst);
        check.test("WARMTH is divided exactly", PlacingTest::exactly);
        check.test("WARMTH of a chain: the sums of its blocks' counts and bodies", PlacingTest::sums);
        check.test("WARMTH of the greatest sums", PlacingTest::greatSums);
        check.test("of equal the one whose first block has the lesser number", PlacingTest::equalWarmth);
        check.test("then the COLD ones by their first blocks' numbers", PlacingTest::coldByNumber);
        check.test("for each function in turn its chains that are not COLD", PlacingTest::functionsInTurn);
        check.test("then for each function in turn its COLD ones", PlacingTest::coldFunctionsInTurn);
        check.end();
    }

    private static void byNumber(Check check) {
        LayoutOptimizer x = new LayoutOptimizer(50);
        for (int f : new int[] {3, 0, 3, 1, 0, 3}) {
            x.block(f, 5);
        }
        x.jump(0, 5);
        x.jump(1, 4);
        x.heat(0, 0, 100);
        x.heat(1, 0, 50);
        x.layout(0);
        check.dueOrder("mixed functions and counts", x, 0, 1, 2, 3, 4, 5);
        x.layout(1);
        check.dueOrder("by chains", x, 1, 4, 3, 0, 5, 2);
        x.layout(0);
        check.dueOrder("by number behind by chains", x, 0, 1, 2, 3, 4, 5);
        LayoutOptimizer one = Samples.blocks(4, 1, 1);
        one.layout(0);
        check.dueOrder("one block", one, 0);
        LayoutOptimizer full = Samples.full();
        full.layout(0);
        for (int k = 0; k < 24; k++) {
            check.due("24 blocks: at(" + k + ")", full.at(k), k);
        }
    }

    private static void chainsAlone(Check check) {
        LayoutOptimizer x = Samples.diamond(50);
        x.layout(1);
        check.dueOrder("no counts", x, 0, 1, 2, 3);
        check.due("chains", x.count(5), 4);
        LayoutOptimizer one = Samples.blocks(4, 1, 1);
        one.layout(1);
        check.due("one block: chains", one.count(5), 1);
        LayoutOptimizer full = Samples.blocks(4, 24, 1);
        full.layout(1);
        check.due("24 blocks: chains", full.count(5), 24);
    }

    /** Both edges of 0 would join; the one of greater count does. */
    private static void greaterFirst(Check check) {
        check.due("edge 1 has less", joinedBehindEntry(5, 4), 1);
        check.due("edge 1 has more", joinedBehindEntry(5, 6), 2);
        check.due("edge 1 has less, of great counts", joinedBehindEntry(100000, 99999), 1);
        check.due("edge 1 has more, of great counts", joinedBehindEntry(99999, 100000), 2);
    }

    /** Which of 1 and 2 is in the chain of 0, if its edges there have these counts. */
    private static int joinedBehindEntry(int first, int second) {
        LayoutOptimizer x = Samples.blocks(50, 3, 1);
        x.test(0, 1, 2);
        x.heat(0, 0, first);
        x.heat(0, 1, second);
        x.layout(1);
        return x.count(5) == 2 ? x.at(1) : -1;
    }

    /** Edges from 1, 2 and 3 all lead to 4, so that only the first of them joins. */
    private static void lesserBlock(Check check) {
        check.due("all equal", joinedBefore(7, 7, 7), 1);
        check.due("2 and 3 equal", joinedBefore(6, 7, 7), 2);
        check.due("3 has one more", joinedBefore(7, 7, 8), 3);
        check.due("1 and 3 equal", joinedBefore(7, 6, 7), 1);
        // Of equal counts edge 1 of the lesser block comes before edge 0 of another.
        LayoutOptimizer x = Samples.blocks(50, 4, 1);
        x.test(1, 1, 3);
        x.jump(2, 3);
        x.heat(1, 1, 4);
        x.heat(2, 0, 4);
        x.layout(1);
        check.dueOrder("edge 1 of 1, then edge 0 of 2", x, 0, 1, 3, 2);
        x.heat(2, 0, 1);
        x.layout(1);
        check.dueOrder("edge 0 of 2 has one more", x, 0, 2, 3, 1);
    }

    private static int joinedBefore(int one, int two, int three) {
        LayoutOptimizer x = Samples.blocks(50, 5, 1);
        int[] counts = {one, two, three};
        for (int b = 1; b <= 3; b++) {
            x.jump(b, 4);
            x.heat(b, 0, counts[b - 1]);
        }
        x.layout(1);
        // The chain is the only warm one, so it stands right behind the entry.
        return x.at(2) == 4 ? x.at(1) : -1;
    }

    private static void edgeZeroBefore(Check check) {
        check.due("equal counts of 1", joinedBehindEntry(1, 1), 1);
        check.due("equal counts of 5", joinedBehindEntry(5, 5), 1);
        check.due("equal counts of 100000", joinedBehindEntry(100000, 100000), 1);
        LayoutOptimizer x = Samples.diamond(50);
        x.heat(0, 0, 4);
        x.heat(0, 1, 4);
        x.heat(1, 0, 4);
        x.heat(2, 0, 4);
        x.layout(1);
        check.dueOrder("edge 0 of 0, then 1 to 3", x, 0, 1, 3, 2);
        LayoutOptimizer y = Samples.blocks(50, 3, 1);
        y.test(0, 2, 1);
        y.heat(0, 0, 4);
        y.heat(0, 1, 4);
        y.layout(1);
        check.dueOrder("edge 0, not the lesser target", y, 0, 2, 1);
    }

    private static void countZero(Check check) {
        LayoutOptimizer x = Samples.blocks(50, 4, 1);
        x.jump(0, 3);
        x.jump(3, 1);
        x.layout(1);
        check.dueOrder("counts 0", x, 0, 1, 2, 3);
        check.due("counts 0: chains", x.count(5), 4);
        x.heat(3, 0, 1);
        x.layout(1);
        check.dueOrder("3 to 1 has count 1, 0 to 3 has 0", x, 0, 3, 1, 2);
        check.due("one of count 1: chains", x.count(5), 3);
        x.heat(0, 0, 1);
        x.layout(1);
        check.due("both of count 1: chains", x.count(5), 2);
        // A new END has edges of count 0, though its block and its target have counts.
        LayoutOptimizer y = Samples.blocks(50, 3, 1);
        y.jump(0, 2);
        y.heat(0, 0, 9);
        y.jump(0, 2);
        y.layout(1);
        check.dueOrder("cleared by jump", y, 0, 2, 1);
        check.due("cleared by jump: chains", y.count(5), 3);
    }

    private static void toItself(Check check) {
        LayoutOptimizer x = Samples.blocks(50, 4, 1);
        x.test(1, 1, 3);
        x.test(3, 3, 3);
        x.heat(1, 0, 100);
        x.heat(1, 1, 1);
        x.heat(3, 0, 70);
        x.heat(3, 1, 80);
        x.layout(1);
        check.dueOrder("1 joins 3 all the same", x, 0, 1, 3, 2);
        check.due("chains", x.count(5), 3);
        LayoutOptimizer y = Samples.blocks(50, 2, 1);
        y.test(0, 0, 1);
        y.heat(0, 0, 9);
        y.heat(0, 1, 1);
        y.layout(1);
        check.dueOrder("the entry to itself", y, 0, 1);
        check.due("the entry joins 1: chains", y.count(5), 1);
    }

    /** 0 to 2 comes first, so that 0 no longer ends a chain; 2 does. */
    private static void endsWith(Check check) {
        LayoutOptimizer x = Samples.blocks(50, 4, 1);
        x.test(0, 2, 1);
        x.test(2, 3, 1);
        x.heat(0, 0, 9);
        x.heat(0, 1, 8);
        x.layout(1);
        check.dueOrder("1 is not behind 0", x, 0, 2, 1, 3);
        check.due("two of them are joined", x.count(5), 3);
        x.heat(2, 1, 7);
        x.layout(1);
        check.dueOrder("1 is behind 2", x, 0, 2, 1, 3);
        check.due("three of them are joined", x.count(5), 2);
        x.heat(2, 0, 8);
        x.layout(1);
        check.dueOrder("3 is behind 2, so 1 is not", x, 0, 2, 3, 1);
        check.due("three others are joined", x.count(5), 2);
    }

    /** 1 to 3 comes first, so that no chain begins with 3 when the edge from 2 is come to. */
    private static void beginsWith(Check check) {
        LayoutOptimizer x = Samples.blocks(50, 5, 1);
        x.jump(1, 3);
        x.jump(2, 3);
        x.jump(3, 4);
        x.heat(1, 0, 9);
        x.heat(2, 0, 8);
        x.heat(3, 0, 7);
        x.layout(1);
        check.dueOrder("3 is behind 1", x, 0, 1, 3, 4, 2);
        check.due("chains", x.count(5), 3);
        LayoutOptimizer y = Samples.blocks(50, 5, 1);
        y.jump(1, 3);
        y.jump(2, 4);
        y.jump(3, 4);
        y.heat(1, 0, 7);
        y.heat(2, 0, 8);
        y.heat(3, 0, 9);
        y.layout(1);
        check.dueOrder("4 is behind 3", y, 0, 1, 3, 4, 2);
        check.due("chains by now", y.count(5), 3);
    }

    private static void notTheSame(Check check) {
        LayoutOptimizer x = Samples.blocks(50, 4, 1);
        x.jump(1, 2);
        x.jump(2, 3);
        x.jump(3, 1);
        x.heat(1, 0, 9);
        x.heat(2, 0, 8);
        x.heat(3, 0, 7);
        x.layout(1);
        check.dueOrder("a ring is opened at its least edge", x, 0, 1, 2, 3);
        check.due("chains", x.count(5), 2);
        x.heat(3, 0, 3);
        x.layout(1);
        check.dueOrder("another edge is the least", x, 0, 3, 1, 2);
        check.due("chains again", x.count(5), 2);
        LayoutOptimizer y = Samples.blocks(50, 3, 1);
        y.jump(1, 2);
        y.jump(2, 1);
        y.heat(1, 0, 4);
        y.heat(2, 0, 4);
        y.layout(1);
        check.dueOrder("a ring of two", y, 0, 1, 2);
        y.heat(2, 0, 1);
        y.layout(1);
        check.dueOrder("a ring of two, the other way", y, 0, 2, 1);
        check.due("a ring of two: chains", y.count(5), 2);
    }

    private static void notTheEntry(Check check) {
        LayoutOptimizer x = new LayoutOptimizer(50);
        for (int f : new int[] {1, 0, 0, 1, 0}) {
            x.block(f, 1);
        }
        x.jump(2, 1);
        x.jump(3, 0);
        x.jump(4, 2);
        x.heat(2, 0, 1000);
        x.heat(3, 0, 1000);
        x.layout(1);
        check.dueOrder("the entries 1 and 0 begin their chains", x, 1, 0, 2, 4, 3);
        check.due("none is joined", x.count(5), 5);
        x.heat(4, 0, 1);
        x.layout(1);
        check.dueOrder("4 and 2, which is no entry, are joined", x, 1, 4, 2, 0, 3);
        check.due("one less", x.count(5), 4);
        LayoutOptimizer y = Samples.blocks(50, 3, 1);
        y.jump(0, 2);
        y.jump(2, 0);
        y.heat(2, 0, 9);
        y.heat(0, 0, 1);
        y.layout(1);
        check.dueOrder("x may be the entry", y, 0, 2, 1);
        check.due("0 and 2 are joined", y.count(5), 2);
    }

    private static void joinedWhole(Check check) {
        LayoutOptimizer x = Samples.blocks(50, 7, 1);
        x.jump(5, 2);
        x.jump(6, 1);
        x.jump(2, 6);
        x.jump(0, 5);
        x.heat(5, 0, 9);
        x.heat(6, 0, 8);
        x.heat(2, 0, 7);
        x.layout(1);
        check.dueOrder("5 2 and 6 1", x, 0, 5, 2, 6, 1, 3, 4);
        check.due("chains", x.count(5), 4);
        x.heat(0, 0, 1);
        x.layout(1);
        check.dueOrder("0 and 5 2 6 1", x, 0, 5, 2, 6, 1, 3, 4);
        check.due("one chain less", x.count(5), 3);
    }

    private static void coldByCount(Check check) {
        LayoutOptimizer x = Samples.blocks(50, 4, 1);
        x.jump(2, 3);
        x.layout(1);
        check.due("all but the entry have 0", x.count(4), 3);
        x.heat(2, 0, 1);
        x.layout(1);
        check.dueOrder("3 has 1", x, 0, 2, 3, 1);
        check.due("2 has 0, but is in a chain with 3", x.count(4), 1);
        x.cool();
        x.layout(1);
        check.due("all have 0 again", x.count(4), 3);
        // A count without an edge: the block is alone, and not cold.
        LayoutOptimizer y = Samples.blocks(50, 3, 1);
        y.jump(1, 2);
        y.heat(1, 0, 1);
        y.jump(1, 0);
        y.layout(1);
        check.dueOrder("2 has 1", y, 0, 2, 1);
        check.due("1 is cold", y.count(4), 1);
    }

    /** Function 0 has a cold block; the entry of function 3 comes before it, though its count is 0. */
    private static void entryIsNotCold(Check check) {
        LayoutOptimizer x = new LayoutOptimizer(50);
        for (int f : new int[] {0, 0, 3}) {
            x.block(f, 1);
        }
        x.layout(1);
        check.dueOrder("both entries, then the cold one", x, 0, 2, 1);
        check.due("cold blocks", x.count(4), 1);
        LayoutOptimizer one = Samples.blocks(50, 1, 1);
        one.layout(1);
        check.due("an entry alone is not cold", one.count(4), 0);
        LayoutOptimizer four = new LayoutOptimizer(50);
        for (int f = 3; f >= 0; f--) {
            four.block(f, 1);
        }
        four.layout(1);
        check.dueOrder("four entries", four, 3, 2, 1, 0);
        check.due("four entries: cold blocks", four.count(4), 0);
    }

    private static void entryFirst(Check check) {
        LayoutOptimizer x = Samples.bodies(50, 40, 1, 1, 1);
        x.jump(2, 2);
        x.heat(2, 0, 100000);
        x.layout(1);
        check.dueOrder("the entry has count 0, 2 has 100000", x, 0, 2, 1, 3);
        LayoutOptimizer y = Samples.bodies(50, 40, 1, 1, 40);
        y.jump(0, 3);
        y.jump(2, 2);
        y.heat(0, 0, 1);
        y.heat(2, 0, 100000);
        y.layout(1);
        check.dueOrder("all of the entry's chain", y, 0, 3, 2, 1);
    }

    /** A block is heated by an edge from itself, which joins nothing. */
    private static LayoutOptimizer heated(int[] bodies, int[] counts) {
        LayoutOptimizer x = Samples.bodies(50, bodies);
        for (int b = 0; b < counts.length; b++) {
            int left = counts[b];
            x.jump(b, b);
            while (left > 0) {
                x.heat(b, 0, Math.min(left, 100000));
                left -= 100000;
            }
        }
        x.layout(1);
        return x;
    }

    private static int[] row(int... values) {
        return values;
    }

    private static void warmerFirst(Check check) {
        check.dueOrder("of one body, one less", heated(row(1, 5, 5), row(0, 9, 8)), 0, 1, 2);
        check.dueOrder("of one body, one more", heated(row(1, 5, 5), row(0, 9, 10)), 0, 2, 1);
        check.dueOrder("of one count, a lesser body", heated(row(1, 5, 4), row(0, 9, 9)), 0, 2, 1);
        check.dueOrder("of one count, a greater body", heated(row(1, 5, 6), row(0, 9, 9)), 0, 1, 2);
        check.dueOrder("a greater count, but less warm", heated(row(1, 40, 1), row(0, 39, 1)), 0, 2, 1);
        check.dueOrder("three in turn", heated(row(1, 2, 2, 2), row(0, 1, 3, 2)), 0, 2, 3, 1);
    }

    /** Quotients that are the same once they are cut to whole numbers, or to what a float holds. */
    private static void exactly(Check check) {
        check.dueOrder("79/40, 3/2, 6/4, 4/3, 8/6",
                heated(row(1, 3, 2, 40, 6, 4), row(0, 4, 3, 79, 8, 6)), 0, 3, 2, 5, 1, 4);
        check.dueOrder("0 and a part: 1/40 and 1/39", heated(row(1, 40, 39), row(0, 1, 1)), 0, 2, 1);
        check.dueOrder("974999/39 is less than 999999/40",
                heated(row(1, 39, 40), row(0, 974999, 999999)), 0, 2, 1);
        check.dueOrder("975000/39 is 1000000/40", heated(row(1, 39, 40), row(0, 975000, 1000000)), 0, 1, 2);
        check.dueOrder("1000000/40 is 975000/39", heated(row(1, 40, 39), row(0, 1000000, 975000)), 0, 1, 2);
        check.dueOrder("1000000/40 is less than 975001/39",
                heated(row(1, 40, 39), row(0, 1000000, 975001)), 0, 2, 1);
    }

    /** The chain of 1 and 2 has the body 40, and 3 has 1 for each unit of its body. */
    private static void sums(Check check) {
        LayoutOptimizer x = Samples.bodies(50, 1, 1, 39, 2);
        x.jump(1, 2);
        x.jump(3, 3);
        x.heat(1, 0, 39);
        x.heat(3, 0, 2);
        x.layout(1);
        check.dueOrder("39/40 and 2/2", x, 0, 3, 1, 2);
        x.heat(1, 0, 1);
        x.layout(1);
        check.dueOrder("40/40 and 2/2", x, 0, 1, 2, 3);
        // Both blocks of the chain have counts.
        LayoutOptimizer y = Samples.bodies(50, 1, 10, 5, 5);
        y.jump(1, 1);
        y.jump(2, 3);
        y.jump(3, 2);
        y.heat(1, 0, 10);
        y.heat(2, 0, 6);
        y.heat(3, 0, 5);
        y.layout(1);
        check.dueOrder("10/10 and (5 + 6)/(5 + 5)", y, 0, 2, 3, 1);
    }

    /** 6000000 over 7 is warmer than 11 over 480, though 6000000 * 480 passes an int. */
    private static void greatSums(Check check) {
        LayoutOptimizer x = Samples.blocks(50, 1, 1);
        addChain(x, 12, 40, 1, 1);
        addChain(x, 7, 1, 100000, 10);
        x.layout(1);
        check.dueOrder("the hot behind", x, 0, 13, 14, 15, 16, 17, 18, 19, 1, 2, 3, 4, 5, 6, 7, 8, 9, 10, 11, 12);
        check.due("chains", x.count(5), 3);
        LayoutOptimizer y = Samples.blocks(50, 1, 1);
        addChain(y, 7, 1, 100000, 10);
        addChain(y, 12, 40, 1, 1);
        y.layout(1);
        check.dueOrder("the hot before", y, 0, 1, 2, 3, 4, 5, 6, 7, 8, 9, 10, 11, 12, 13, 14, 15, 16, 17, 18, 19);
    }

    /** Blocks of one body, each of which jumps to the next, with all these edges heated so often by so much. */
    private static void addChain(LayoutOptimizer x, int blocks, int body, int heat, int times) {
        int last = x.block(0, body);
        for (int k = 1; k < blocks; k++) {
            int made = x.block(0, body);
            x.jump(last, made);
            for (int t = 0; t < times; t++) {
                x.heat(last, 0, heat);
            }
            last = made;
        }
    }

    /** The chain 3 1 has 4 over 8, and 2 has 2, 3 or 4 over 6. */
    private static void equalWarmth(Check check) {
        LayoutOptimizer x = Samples.bodies(50, 1, 3, 6, 5);
        x.jump(3, 1);
        x.jump(2, 2);
        x.heat(3, 0, 4);
        x.heat(2, 0, 2);
        x.layout(1);
        check.dueOrder("2 is less warm", x, 0, 3, 1, 2);
        x.heat(2, 0, 1);
        x.layout(1);
        check.dueOrder("equal: 2 is less than 3, though not than 1", x, 0, 2, 3, 1);
        x.heat(2, 0, 1);
        x.layout(1);
        check.dueOrder("2 is warmer", x, 0, 2, 3, 1);
        check.dueOrder("equal blocks", heated(row(1, 5, 5, 5, 5), row(0, 7, 7, 7, 7)), 0, 1, 2, 3, 4);
        check.dueOrder("2/4 is 1/2 and 3/6", heated(row(1, 4, 2, 6), row(0, 2, 1, 3)), 0, 1, 2, 3);
    }

    private static void coldByNumber(Check check) {
        LayoutOptimizer x = Samples.bodies(50, 9, 5, 1, 40, 2, 3);
        x.jump(4, 4);
        x.heat(4, 0, 1);
        x.layout(1);
        check.dueOrder("4 is warm", x, 0, 4, 1, 2, 3, 5);
        check.due("cold blocks", x.count(4), 4);
        LayoutOptimizer full = Samples.blocks(50, 24, 1);
        full.jump(23, 23);
        full.heat(23, 0, 1);
        full.layout(1);
        check.due("24 blocks: at(1)", full.at(1), 23);
        for (int k = 2; k < 24; k++) {
            check.due("24 blocks: at(" + k + ")", full.at(k), k - 1);
        }
    }

    /** A later function's greater warmth does not move it forward. */
    private static void functionsInTurn(Check check) {
        LayoutOptimizer x = new LayoutOptimizer(50);
        for (int f : new int[] {3, 3, 2, 2, 1, 1, 0, 0}) {
            x.block(f, 5);
        }
        for (int b = 1; b < 8; b += 2) {
            x.jump(b, b);
            x.heat(b, 0, b == 1 ? 9000 : b);
        }
        x.layout(1);
        check.dueOrder("four functions", x, 6, 7, 4, 5, 2, 3, 0, 1);
        check.due("cold blocks", x.count(4), 0);
    }

    private static void coldFunctionsInTurn(Check check) {
        LayoutOptimizer x = new LayoutOptimizer(50);
        for (int f : new int[] {3, 1, 3, 1, 1, 3, 0, 2, 2, 0}) {
            x.block(f, 5);
        }
        x.layout(1);
        check.dueOrder("no counts", x, 6, 1, 7, 0, 9, 3, 4, 8, 2, 5);
        check.due("no counts: cold blocks", x.count(4), 6);
        LayoutOptimizer y = new LayoutOptimizer(50);
        for (int f : new int[] {3, 1, 3, 1, 1, 3}) {
            y.block(f, 5);
        }
        y.jump(4, 4);
        y.heat(4, 0, 1);
        y.layout(1);
        check.dueOrder("4 is warm", y, 1, 4, 0, 3, 2, 5);
        check.due("4 is warm: cold blocks", y.count(4), 3);
    }
}

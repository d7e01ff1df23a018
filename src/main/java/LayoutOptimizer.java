import java.util.Arrays;

/**
 * A layout of machine code after linking: blocks of functions are placed anew by how often their
 * edges were taken, and their branches become short or long as the places demand.
 *
 * <p>Every row is made with the object and used again, so that no call makes an object.
 */
public final class LayoutOptimizer {
    public static final int REFUSED = -1;
    public static final int FULL = -2;
    public static final int NONE = -3;
    public static final int SHORT = 1;
    public static final int LONG = 2;

    private static final int FUNCTIONS = 4;
    private static final int MAX_BLOCKS = 24;
    private static final int MAX_EDGES = 2 * MAX_BLOCKS;
    private static final int MAX_BODY = 40;
    private static final int MIN_RANGE = 4;
    private static final int MAX_RANGE = 400;
    private static final int MAX_COUNT = 1000000;
    private static final int MAX_HEAT = 100000;
    private static final int MAX_ENTERED = 60;
    private static final int HOLDS_BITS = 32;

    private static final int BY_NUMBER = 0;
    private static final int BY_CHAINS = 1;

    // The kinds of END are numbered by how many edges each has.
    private static final int RETURN = 0;
    private static final int JUMP = 1;
    private static final int TEST = 2;

    private static final int NOTHING = -1;

    private final int range;
    private final Graph graph;
    private final Counts counts;
    private final Trail trail;
    private final Placing placing;
    private final Code code;
    private boolean laidOut;

    public LayoutOptimizer(int range) {
        this.range = Math.max(MIN_RANGE, Math.min(MAX_RANGE, range));
        this.graph = new Graph();
        this.counts = new Counts();
        this.trail = new Trail();
        this.placing = new Placing();
        this.code = new Code();
        this.laidOut = false;
    }

    public int block(int f, int body) {
        if (f < 0 || f >= FUNCTIONS || body < 1 || body > MAX_BODY || laidOut) {
            return REFUSED;
        }
        if (graph.size >= MAX_BLOCKS) {
            return FULL;
        }
        return graph.add(f, body);
    }

    public int jump(int block, int y) {
        if (laidOut || !graph.canLead(block, y)) {
            return REFUSED;
        }
        graph.setEnd(block, JUMP, y, NOTHING);
        counts.clearEdges(block);
        return 0;
    }

    public int test(int block, int x, int y) {
        if (laidOut || !graph.canLead(block, x) || !graph.canLead(block, y)) {
            return REFUSED;
        }
        graph.setEnd(block, TEST, x, y);
        counts.clearEdges(block);
        return 0;
    }

    public int walk(int f, int holds) {
        if (!graph.hasEntry(f)) {
            return REFUSED;
        }
        trail.follow(graph, f, holds);
        counts.addTrail(trail);
        return trail.size;
    }

    public int heat(int block, int e, int n) {
        if (n < 1 || n > MAX_HEAT || !graph.hasEdge(block, e)) {
            return REFUSED;
        }
        int edge = 2 * block + e;
        counts.addToEdge(edge, n);
        counts.addToBlock(graph.to[edge], n);
        return counts.ofEdge[edge];
    }

    public int cool() {
        counts.clear();
        return 0;
    }

    public int layout(int mode) {
        if (graph.size == 0 || mode < BY_NUMBER || mode > BY_CHAINS) {
            return REFUSED;
        }
        if (mode == BY_NUMBER) {
            placing.placeByNumber(graph);
        } else {
            placing.placeByChains(graph, counts);
        }
        code.lay(graph, placing.order, range);
        laidOut = true;
        return code.length;
    }

    public int at(int k) {
        return laidOut && graph.has(k) ? placing.order[k] : NONE;
    }

    public int address(int block) {
        return laidOut && graph.has(block) ? code.start[block] : NONE;
    }

    public int branch(int block, int i) {
        return hasBranch(block, i) ? code.units[2 * block + i] : NONE;
    }

    public int target(int block, int i) {
        return hasBranch(block, i) ? code.goal[2 * block + i] : NONE;
    }

    public int cost(int f, int holds) {
        if (!laidOut || !graph.hasEntry(f)) {
            return REFUSED;
        }
        trail.follow(graph, f, holds);
        int sum = 0;
        for (int step = 0; step < trail.size; step++) {
            int left = trail.blocks[step];
            sum += code.costOfLeaving(left, graph.end[left], trail.edges[step] == 0);
        }
        return sum;
    }

    public int heatOf(int block, int e) {
        if (e == -1 && graph.has(block)) {
            return counts.ofBlock[block];
        }
        return graph.hasEdge(block, e) ? counts.ofEdge[2 * block + e] : NONE;
    }

    public int count(int what) {
        if (what < 0 || what > 5) {
            return REFUSED;
        }
        if (what == 0) {
            return graph.size;
        }
        return laidOut ? countOfLayout(what) : 0;
    }

    private int countOfLayout(int what) {
        switch (what) {
            case 1:
                return code.length;
            case 2:
                return code.branches;
            case 3:
                return code.longOnes;
            case 4:
                return placing.coldBlocks;
            default:
                return placing.chains;
        }
    }

    private boolean hasBranch(int block, int i) {
        return laidOut && graph.has(block) && (i == 0 || i == 1) && code.units[2 * block + i] != 0;
    }

    /** The blocks with their functions, bodies and ENDs; edge e of block b stands at 2 * b + e. */
    private static final class Graph {
        final int[] function = new int[MAX_BLOCKS];
        final int[] body = new int[MAX_BLOCKS];
        final int[] end = new int[MAX_BLOCKS];
        final int[] to = new int[MAX_EDGES];
        final int[] entry = new int[FUNCTIONS];
        int size = 0;

        Graph() {
            Arrays.fill(entry, NOTHING);
        }

        int add(int f, int units) {
            int made = size;
            function[made] = f;
            body[made] = units;
            setEnd(made, RETURN, NOTHING, NOTHING);
            if (entry[f] == NOTHING) {
                entry[f] = made;
            }
            size++;
            return made;
        }

        void setEnd(int block, int kind, int x, int y) {
            end[block] = kind;
            to[2 * block] = x;
            to[2 * block + 1] = y;
        }

        boolean has(int block) {
            return block >= 0 && block < size;
        }

        boolean hasEdge(int block, int e) {
            return has(block) && e >= 0 && e < end[block];
        }

        boolean hasEntry(int f) {
            return f >= 0 && f < FUNCTIONS && entry[f] != NOTHING;
        }

        boolean canLead(int block, int y) {
            return has(block) && has(y) && function[block] == function[y];
        }

        boolean isEntry(int block) {
            return entry[function[block]] == block;
        }
    }

    /** How often each block was entered and each edge gone along. */
    private static final class Counts {
        final int[] ofBlock = new int[MAX_BLOCKS];
        final int[] ofEdge = new int[MAX_EDGES];

        void addToBlock(int block, int n) {
            ofBlock[block] = Math.min(MAX_COUNT, ofBlock[block] + n);
        }

        void addToEdge(int edge, int n) {
            ofEdge[edge] = Math.min(MAX_COUNT, ofEdge[edge] + n);
        }

        void addTrail(Trail trail) {
            for (int step = 0; step < trail.size; step++) {
                addToBlock(trail.blocks[step], 1);
                // The last block of a trail is entered but not left.
                if (step + 1 < trail.size) {
                    addToEdge(2 * trail.blocks[step] + trail.edges[step], 1);
                }
            }
        }

        void clearEdges(int block) {
            ofEdge[2 * block] = 0;
            ofEdge[2 * block + 1] = 0;
        }

        void clear() {
            Arrays.fill(ofBlock, 0);
            Arrays.fill(ofEdge, 0);
        }
    }

    /** The blocks that a walk enters, each with the edge by which it would be left. */
    private static final class Trail {
        final int[] blocks = new int[MAX_ENTERED];
        final int[] edges = new int[MAX_ENTERED];
        int size = 0;

        void follow(Graph graph, int f, int holds) {
            int tests = 0;
            int here = graph.entry[f];
            size = 0;
            while (size < MAX_ENTERED && here != NOTHING) {
                int e = 0;
                if (graph.end[here] == TEST) {
                    e = holdsAt(tests, holds) ? 0 : 1;
                    tests++;
                }
                blocks[size] = here;
                edges[size] = e;
                size++;
                // A RETURN's edges lead to NOTHING, and so end the trail.
                here = graph.to[2 * here + e];
            }
        }

        private static boolean holdsAt(int i, int holds) {
            return i < HOLDS_BITS && ((holds >>> i) & 1) == 1;
        }
    }

    /** A PLACING; a chain is known by its first block. */
    private static final class Placing {
        final int[] order = new int[MAX_BLOCKS];
        int chains = 0;
        int coldBlocks = 0;
        private final int[] edges = new int[MAX_EDGES];
        private final int[] heads = new int[MAX_BLOCKS];
        private final int[] first = new int[MAX_BLOCKS];
        private final int[] behind = new int[MAX_BLOCKS];
        private final int[] heatSum = new int[MAX_BLOCKS];
        private final int[] bodySum = new int[MAX_BLOCKS];

        void placeByNumber(Graph graph) {
            for (int b = 0; b < graph.size; b++) {
                order[b] = b;
            }
            chains = graph.size;
            coldBlocks = 0;
        }

        void placeByChains(Graph graph, Counts counts) {
            startChains(graph, counts);
            int found = sortEdges(graph, counts);
            for (int k = 0; k < found; k++) {
                joinAlong(graph, edges[k] / 2, graph.to[edges[k]]);
            }
            sortHeads(graph);
            writeOrder(graph);
        }

        private void startChains(Graph graph, Counts counts) {
            for (int b = 0; b < graph.size; b++) {
                first[b] = b;
                behind[b] = NOTHING;
                heatSum[b] = counts.ofBlock[b];
                bodySum[b] = graph.body[b];
            }
        }

        /** Edges are put in by block and number, each behind its equals, so that ties stay so. */
        private int sortEdges(Graph graph, Counts counts) {
            int found = 0;
            for (int edge = 0; edge < 2 * graph.size; edge++) {
                if (mayJoin(graph, counts, edge)) {
                    int k = found;
                    while (k > 0 && counts.ofEdge[edges[k - 1]] < counts.ofEdge[edge]) {
                        edges[k] = edges[k - 1];
                        k--;
                    }
                    edges[k] = edge;
                    found++;
                }
            }
            return found;
        }

        private static boolean mayJoin(Graph graph, Counts counts, int edge) {
            return edge % 2 < graph.end[edge / 2]
                    && counts.ofEdge[edge] > 0
                    && graph.to[edge] != edge / 2;
        }

        private void joinAlong(Graph graph, int x, int y) {
            int head = first[x];
            if (behind[x] != NOTHING || first[y] != y || head == y || graph.isEntry(y)) {
                return;
            }
            behind[x] = y;
            heatSum[head] += heatSum[y];
            bodySum[head] += bodySum[y];
            for (int b = 0; b < graph.size; b++) {
                if (first[b] == y) {
                    first[b] = head;
                }
            }
        }

        private void sortHeads(Graph graph) {
            chains = 0;
            for (int b = 0; b < graph.size; b++) {
                if (first[b] == b) {
                    int k = chains;
                    while (k > 0 && comesBefore(graph, b, heads[k - 1])) {
                        heads[k] = heads[k - 1];
                        k--;
                    }
                    heads[k] = b;
                    chains++;
                }
            }
        }

        private boolean comesBefore(Graph graph, int a, int b) {
            if (isCold(graph, a) != isCold(graph, b)) {
                return isCold(graph, b);
            }
            if (graph.function[a] != graph.function[b]) {
                return graph.function[a] < graph.function[b];
            }
            if (graph.isEntry(a) != graph.isEntry(b)) {
                return graph.isEntry(a);
            }
            // Cross products, since quotients would not be exact; they can pass an int.
            long warmthOfA = (long) heatSum[a] * bodySum[b];
            long warmthOfB = (long) heatSum[b] * bodySum[a];
            return warmthOfA != warmthOfB ? warmthOfA > warmthOfB : a < b;
        }

        /** No edge joins an ENTRY behind a block, so an ENTRY is always the first of its chain. */
        private boolean isCold(Graph graph, int head) {
            return heatSum[head] == 0 && !graph.isEntry(head);
        }

        private void writeOrder(Graph graph) {
            int placed = 0;
            coldBlocks = 0;
            for (int c = 0; c < chains; c++) {
                boolean cold = isCold(graph, heads[c]);
                int b = heads[c];
                while (b != NOTHING && placed < graph.size) {
                    order[placed] = b;
                    placed++;
                    coldBlocks += cold ? 1 : 0;
                    b = behind[b];
                }
            }
        }
    }

    /** Addresses and BRANCHES of placed blocks; BRANCH i of block b stands at 2 * b + i. */
    private static final class Code {
        final int[] start = new int[MAX_BLOCKS];
        final int[] goal = new int[MAX_EDGES];
        final int[] units = new int[MAX_EDGES];
        final boolean[] turned = new boolean[MAX_BLOCKS];
        int length = 0;
        int branches = 0;
        int longOnes = 0;

        void lay(Graph graph, int[] order, int range) {
            branches = 0;
            longOnes = 0;
            for (int k = 0; k < graph.size; k++) {
                chooseBranches(graph, order[k], k + 1 < graph.size ? order[k + 1] : NOTHING);
            }
            measure(graph, order);
            // Each round makes at least one more BRANCH LONG, so there are no more rounds than BRANCHES.
            for (int round = 0; round < MAX_EDGES && lengthen(graph, range); round++) {
                measure(graph, order);
            }
        }

        private void chooseBranches(Graph graph, int b, int next) {
            int x = graph.to[2 * b];
            int y = graph.to[2 * b + 1];
            clearBranches(b);
            if (graph.end[b] == JUMP) {
                if (x != next) {
                    putBranch(2 * b, x);
                }
            } else if (graph.end[b] == TEST) {
                if (y == next) {
                    putBranch(2 * b, x);
                } else if (x == next) {
                    putBranch(2 * b, y);
                    turned[b] = true;
                } else {
                    putBranch(2 * b, x);
                    putBranch(2 * b + 1, y);
                }
            }
        }

        private void clearBranches(int b) {
            turned[b] = false;
            for (int slot = 2 * b; slot < 2 * b + 2; slot++) {
                goal[slot] = NOTHING;
                units[slot] = 0;
            }
        }

        private void putBranch(int slot, int to) {
            goal[slot] = to;
            units[slot] = SHORT;
            branches++;
        }

        private void measure(Graph graph, int[] order) {
            length = 0;
            for (int k = 0; k < graph.size; k++) {
                int b = order[k];
                start[b] = length;
                length += graph.body[b] + units[2 * b] + units[2 * b + 1];
                length += graph.end[b] == RETURN ? 1 : 0;
            }
        }

        /** The starts stay as measured while BRANCHES grow, so that all grow at once. */
        private boolean lengthen(Graph graph, int range) {
            boolean grown = false;
            for (int b = 0; b < graph.size; b++) {
                int own = start[b] + graph.body[b];
                int ownOfSecond = own + units[2 * b];
                grown |= lengthenOne(2 * b, own, range);
                grown |= lengthenOne(2 * b + 1, ownOfSecond, range);
            }
            return grown;
        }

        private boolean lengthenOne(int slot, int own, int range) {
            if (units[slot] != SHORT || Math.abs(own - start[goal[slot]]) <= range) {
                return false;
            }
            units[slot] = LONG;
            longOnes++;
            return true;
        }

        int costOfLeaving(int b, int end, boolean holds) {
            int first = 2 * b;
            int second = first + 1;
            if (end == RETURN) {
                return 1;
            }
            if (end == JUMP) {
                return units[first] == 0 ? 0 : 2 + longExtra(first);
            }
            if (holds != turned[b]) {
                return 2 + longExtra(first);
            }
            return units[second] == 0 ? 1 : 3 + longExtra(second);
        }

        private int longExtra(int slot) {
            return units[slot] == LONG ? 1 : 0;
        }
    }
}

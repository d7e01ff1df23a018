import java.util.ArrayList;
import java.util.Arrays;
import java.util.Comparator;
import java.util.List;

/** The document told once more, without regard to room or speed, to hold the class against. */
final class Model {
    private static final int REFUSED = -1;
    private static final int FULL = -2;
    private static final int NONE = -3;

    private static final class Block {
        int number;
        int function;
        int body;
        int count;
        final List<Edge> edges = new ArrayList<>();
        final List<Branch> branches = new ArrayList<>();
        int address;
    }

    private static final class Edge {
        Block from;
        Block to;
        int count;
    }

    private static final class Branch {
        Edge along;
        boolean isLong;
        int address;
    }

    private final int range;
    private final List<Block> blocks = new ArrayList<>();
    private final List<Block> placed = new ArrayList<>();
    private int length;
    private int cold;
    private int chainCount;

    Model(int range) {
        this.range = range < 4 ? 4 : range > 400 ? 400 : range;
    }

    private Block find(int number) {
        return number < 0 || number >= blocks.size() ? null : blocks.get(number);
    }

    private Block entry(int f) {
        return blocks.stream().filter(b -> b.function == f).findFirst().orElse(null);
    }

    private boolean isEntry(Block b) {
        return entry(b.function) == b;
    }

    int block(int f, int body) {
        if (f < 0 || f > 3 || body < 1 || body > 40 || !placed.isEmpty()) {
            return REFUSED;
        }
        if (blocks.size() == 24) {
            return FULL;
        }
        Block made = new Block();
        made.number = blocks.size();
        made.function = f;
        made.body = body;
        blocks.add(made);
        return made.number;
    }

    int end(int block, int... goals) {
        Block from = find(block);
        if (from == null || !placed.isEmpty()) {
            return REFUSED;
        }
        for (int goal : goals) {
            if (find(goal) == null || find(goal).function != from.function) {
                return REFUSED;
            }
        }
        from.edges.clear();
        for (int goal : goals) {
            Edge edge = new Edge();
            edge.from = from;
            edge.to = find(goal);
            from.edges.add(edge);
        }
        return 0;
    }

    /** The edges by which a walk leaves the blocks; null where it returns. */
    private List<Edge> path(int f, int holds, List<Block> entered) {
        List<Edge> left = new ArrayList<>();
        int tests = 0;
        Block here = entry(f);
        while (here != null && entered.size() < 60) {
            entered.add(here);
            Edge edge = here.edges.isEmpty() ? null : here.edges.get(0);
            if (here.edges.size() == 2) {
                boolean held = tests <= 31 && (holds & (1L << tests)) != 0;
                edge = here.edges.get(held ? 0 : 1);
                tests++;
            }
            left.add(edge);
            here = edge == null ? null : edge.to;
        }
        return left;
    }

    private static int raised(int count, int n) {
        return count + n > 1000000 ? 1000000 : count + n;
    }

    int walk(int f, int holds) {
        List<Block> entered = new ArrayList<>();
        List<Edge> left = path(f, holds, entered);
        if (entered.isEmpty()) {
            return REFUSED;
        }
        entered.forEach(b -> b.count = raised(b.count, 1));
        left.subList(0, left.size() - 1).forEach(e -> e.count = raised(e.count, 1));
        return entered.size();
    }

    private Edge edge(int block, int e) {
        Block b = find(block);
        return b == null || e < 0 || e >= b.edges.size() ? null : b.edges.get(e);
    }

    int heat(int block, int e, int n) {
        Edge edge = edge(block, e);
        if (edge == null || n < 1 || n > 100000) {
            return REFUSED;
        }
        edge.count = raised(edge.count, n);
        edge.to.count = raised(edge.to.count, n);
        return edge.count;
    }

    int cool() {
        for (Block b : blocks) {
            b.count = 0;
            b.edges.forEach(e -> e.count = 0);
        }
        return 0;
    }

    int heatOf(int block, int e) {
        if (e == -1) {
            return find(block) == null ? NONE : find(block).count;
        }
        return edge(block, e) == null ? NONE : edge(block, e).count;
    }

    int layout(int mode) {
        if (blocks.isEmpty() || mode != 0 && mode != 1) {
            return REFUSED;
        }
        placed.clear();
        if (mode == 0) {
            placed.addAll(blocks);
            cold = 0;
            chainCount = blocks.size();
        } else {
            place(chains());
        }
        for (int k = 0; k < placed.size(); k++) {
            choose(placed.get(k), k + 1 < placed.size() ? placed.get(k + 1) : null);
        }
        measure();
        while (grow()) {
            measure();
        }
        return length;
    }

    private List<List<Block>> chains() {
        List<List<Block>> chains = new ArrayList<>();
        List<Edge> edges = new ArrayList<>();
        for (Block b : blocks) {
            chains.add(new ArrayList<>(Arrays.asList(b)));
            edges.addAll(b.edges);
        }
        edges.removeIf(e -> e.count == 0 || e.from == e.to);
        edges.sort(Comparator.comparingInt((Edge e) -> -e.count)
                .thenComparingInt(e -> e.from.number)
                .thenComparingInt(e -> e.from.edges.indexOf(e)));
        for (Edge e : edges) {
            List<Block> head = null;
            List<Block> tail = null;
            for (List<Block> chain : chains) {
                head = chain.get(chain.size() - 1) == e.from ? chain : head;
                tail = chain.get(0) == e.to ? chain : tail;
            }
            if (head != null && tail != null && head != tail && !isEntry(e.to)) {
                head.addAll(tail);
                List<Block> gone = tail;
                chains.removeIf(c -> c == gone);
            }
        }
        return chains;
    }

    private void place(List<List<Block>> chains) {
        chainCount = chains.size();
        List<List<Block>> colds = new ArrayList<>();
        for (int f = 0; f < 4; f++) {
            int function = f;
            List<List<Block>> own = new ArrayList<>();
            chains.stream().filter(c -> c.get(0).function == function).forEach(own::add);
            own.sort(Comparator.comparingInt(c -> c.get(0).number));
            List<List<Block>> warm = new ArrayList<>();
            for (List<Block> chain : own) {
                (isCold(chain) ? colds : warm).add(chain);
            }
            warm.sort((a, b) -> hasEntry(a) ? -1 : hasEntry(b) ? 1 : compareWarmth(b, a));
            warm.forEach(placed::addAll);
        }
        cold = 0;
        for (List<Block> chain : colds) {
            cold += chain.size();
            placed.addAll(chain);
        }
    }

    private boolean hasEntry(List<Block> chain) {
        return chain.stream().anyMatch(this::isEntry);
    }

    private boolean isCold(List<Block> chain) {
        return !hasEntry(chain) && chain.stream().allMatch(b -> b.count == 0);
    }

    private static int compareWarmth(List<Block> a, List<Block> b) {
        long heatA = a.stream().mapToLong(x -> x.count).sum();
        long heatB = b.stream().mapToLong(x -> x.count).sum();
        long bodyA = a.stream().mapToLong(x -> x.body).sum();
        long bodyB = b.stream().mapToLong(x -> x.body).sum();
        return Long.compare(heatA * bodyB, heatB * bodyA);
    }

    private static void choose(Block b, Block next) {
        b.branches.clear();
        List<Edge> kept = new ArrayList<>(b.edges);
        // What is next needs no branch, the last edge first; but one of a test's branches always stays.
        for (int e = kept.size() - 1; e >= 0; e--) {
            if (kept.get(e).to == next && kept.size() == b.edges.size()) {
                kept.remove(e);
            }
        }
        for (Edge edge : kept) {
            Branch branch = new Branch();
            branch.along = edge;
            b.branches.add(branch);
        }
    }

    private void measure() {
        int units = 0;
        for (Block b : placed) {
            b.address = units;
            units += b.body;
            for (Branch branch : b.branches) {
                branch.address = units;
                units += branch.isLong ? 2 : 1;
            }
            units += b.edges.isEmpty() ? 1 : 0;
        }
        length = units;
    }

    private boolean grow() {
        boolean any = false;
        for (Block b : placed) {
            for (Branch branch : b.branches) {
                if (!branch.isLong && Math.abs(branch.address - branch.along.to.address) > range) {
                    branch.isLong = true;
                    any = true;
                }
            }
        }
        return any;
    }

    int at(int k) {
        return k < 0 || k >= placed.size() ? NONE : placed.get(k).number;
    }

    int address(int block) {
        return placed.isEmpty() || find(block) == null ? NONE : find(block).address;
    }

    private Branch findBranch(int block, int i) {
        Block b = find(block);
        return placed.isEmpty() || b == null || i < 0 || i >= b.branches.size() ? null : b.branches.get(i);
    }

    int branch(int block, int i) {
        Branch branch = findBranch(block, i);
        return branch == null ? NONE : branch.isLong ? 2 : 1;
    }

    int target(int block, int i) {
        Branch branch = findBranch(block, i);
        return branch == null ? NONE : branch.along.to.number;
    }

    int cost(int f, int holds) {
        List<Block> entered = new ArrayList<>();
        List<Edge> left = path(f, holds, entered);
        if (entered.isEmpty() || placed.isEmpty()) {
            return REFUSED;
        }
        int sum = 0;
        for (int k = 0; k < entered.size(); k++) {
            sum += costOfLeaving(entered.get(k), left.get(k));
        }
        return sum;
    }

    private static int costOfLeaving(Block b, Edge edge) {
        if (edge == null) {
            return 1;
        }
        int cost = b.edges.size() == 2 ? 1 : 0;
        for (int i = 0; i < b.branches.size(); i++) {
            Branch branch = b.branches.get(i);
            if (branch.along == edge) {
                // The 1 for a test's first branch counts for that branch, a jump or a second one has 2.
                cost += b.edges.size() == 2 && i == 0 ? 1 : 2;
                cost += branch.isLong ? 1 : 0;
            }
        }
        return cost;
    }

    int count(int what) {
        if (what < 0 || what > 5) {
            return REFUSED;
        }
        if (what == 0) {
            return blocks.size();
        }
        if (placed.isEmpty()) {
            return 0;
        }
        List<Branch> all = new ArrayList<>();
        placed.forEach(b -> all.addAll(b.branches));
        int longOnes = (int) all.stream().filter(b -> b.isLong).count();
        return new int[] {0, length, all.size(), longOnes, cold, chainCount}[what];
    }
}

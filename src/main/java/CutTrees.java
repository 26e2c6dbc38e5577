/** Cuts of graphs of at most twelve nodes; ../shared/DOC.md says what each call answers. */
public final class CutTrees {
    // The refusals.
    private static final int NO_SUCH = -1;
    private static final int OUT_OF_BOUNDS = -2;
    private static final int NONE = -3;
    private static final int NO_ROOM = -4;

    private static final int MOST_NODES = 12;
    private static final int MOST_ARCS = 50;
    private static final int MOST_WEIGHT = 1000;
    private static final int MOST_PARTS = 4;
    private static final int MOST_NODES_IN_PARTS = 10;

    private static final int SEED_FACTOR = 1664525;
    private static final int SEED_STEP = 1013904223;

    private final Graph graph;
    private final CutTable table;
    private final PairTree tree;
    private final Drawing drawing;
    // The place is k - 1.
    private final Parting[] partings;

    public CutTrees() {
        graph = new Graph();
        table = new CutTable(graph);
        tree = new PairTree(graph, table);
        drawing = new Drawing(graph);
        partings = new Parting[MOST_PARTS];
        for (int i = 0; i < MOST_PARTS; i++) {
            partings[i] = new Parting(graph, i + 1);
        }
    }

    public int node() {
        return graph.nodes >= MOST_NODES ? NO_ROOM : graph.addNode();
    }

    public int arc(int a, int b, int weight) {
        if (!graph.hasPair(a, b)) {
            return NO_SUCH;
        }
        if (weight < 1 || weight > MOST_WEIGHT) {
            return OUT_OF_BOUNDS;
        }
        return graph.arcsMade >= MOST_ARCS ? NO_ROOM : graph.addArc(a, b, weight);
    }

    public int drop(int arc) {
        return graph.hasArc(arc) ? graph.removeArc(arc) : NO_SUCH;
    }

    public int clear() {
        return graph.removeAll();
    }

    public int cut(int set) {
        return graph.hasSet(set) ? graph.cutAround(set) : OUT_OF_BOUNDS;
    }

    // ---- pairs and the tree

    public int pair(int a, int b) {
        return graph.hasPair(a, b) ? freshTable().cutBetween(a, b) : NO_SUCH;
    }

    public int side(int a, int b) {
        return graph.hasPair(a, b) ? freshTable().sideAgainst(a, b) : NO_SUCH;
    }

    public int parent(int node) {
        if (!graph.hasNode(node)) {
            return NO_SUCH;
        }
        return node == 0 ? NONE : freshTree().parents[node];
    }

    public int branch(int node) {
        if (!graph.hasNode(node)) {
            return NO_SUCH;
        }
        return node == 0 ? NONE : freshTree().branches[node];
    }

    public int way(int a, int b) {
        return graph.hasPair(a, b) ? freshTree().leastBranchBetween(a, b) : NO_SUCH;
    }

    // ---- all of it

    public int least() {
        return graph.hasSides() ? freshTable().leastCut() : NONE;
    }

    public int counted() {
        return graph.hasSides() ? freshTable().countLeastOnes() : 0;
    }

    public int every(int k) {
        return graph.hasSides() && k >= 0 ? freshTable().leastOne(k) : NO_SUCH;
    }

    public int drawn(int seed) {
        return graph.hasSides() ? drawing.drawBy(seed) : NONE;
    }

    public int parts(int k) {
        int refusal = refusalOfParts(k);
        return refusal < 0 ? refusal : freshParting(k).leastCost;
    }

    public int partOf(int k, int node) {
        if (!graph.hasNode(node)) {
            return NO_SUCH;
        }
        int refusal = refusalOfParts(k);
        return refusal < 0 ? refusal : freshParting(k).best[node];
    }

    private int refusalOfParts(int k) {
        if (k < 1 || k > MOST_PARTS) {
            return OUT_OF_BOUNDS;
        }
        if (graph.nodes > MOST_NODES_IN_PARTS) {
            return NO_ROOM;
        }
        return graph.nodes < k ? NONE : 0;
    }

    public int sparsest() {
        return graph.hasSides() ? freshTable().sparsestSide() : NONE;
    }

    public int share(int part) {
        if (part != 0 && part != 1) {
            return OUT_OF_BOUNDS;
        }
        if (!graph.hasSides()) {
            return NONE;
        }
        int side = freshTable().sparsestSide();
        int above = table.cutAt(side);
        int below = graph.spread(side);
        int divisor = greatestDivisor(above, below);
        return (part == 0 ? above : below) / divisor;
    }

    private static int greatestDivisor(int above, int below) {
        for (int d = below; d > 1; d--) {
            if (above % d == 0 && below % d == 0) {
                return d;
            }
        }
        return 1;
    }

    public int bars(int a, int b) {
        int set = barSet(a, b);
        return set < 0 ? set : Integer.bitCount(set);
    }

    public int barSet(int a, int b) {
        if (!graph.hasPair(a, b)) {
            return NO_SUCH;
        }
        return graph.areJoined(a, b) ? NONE : graph.fewestBars(a, b);
    }

    public int without(int set) {
        return graph.hasSet(set) ? graph.countConnected(graph.allNodes() & ~set) : OUT_OF_BOUNDS;
    }

    private CutTable freshTable() {
        table.refresh();
        return table;
    }

    private PairTree freshTree() {
        table.refresh();
        tree.refresh();
        return tree;
    }

    /** For a k that is not refused. */
    private Parting freshParting(int k) {
        partings[k - 1].refresh();
        return partings[k - 1];
    }

    /** The next SET within `all` as the bits rise; after `all` itself comes the empty one. */
    private static int nextWithin(int all, int set) {
        return (set - all) & all;
    }

    /** The NODES and ARCS. `changes` tells the others when what they keep is stale. */
    private static final class Graph {
        final int[] from = new int[MOST_ARCS];
        final int[] to = new int[MOST_ARCS];
        // 0 for an ARC that was dropped, since a weight is 1 at least.
        final int[] weight = new int[MOST_ARCS];
        final int[][] weightBetween = new int[MOST_NODES][MOST_NODES];
        final int[] neighbours = new int[MOST_NODES];
        int nodes = 0;
        int arcsMade = 0;
        int arcsLeft = 0;
        int changes = 0;

        boolean hasNode(int v) {
            return v >= 0 && v < nodes;
        }

        boolean hasPair(int a, int b) {
            return hasNode(a) && hasNode(b) && a != b;
        }

        boolean hasArc(int arc) {
            return arc >= 0 && arc < arcsMade && weight[arc] > 0;
        }

        boolean hasSet(int set) {
            return set >= 0 && set <= allNodes();
        }

        boolean hasSides() {
            return nodes > 1;
        }

        boolean areJoined(int a, int b) {
            return weightBetween[a][b] > 0;
        }

        int allNodes() {
            return (1 << nodes) - 1;
        }

        int addNode() {
            changes++;
            nodes++;
            return nodes - 1;
        }

        int addArc(int a, int b, int w) {
            int arc = arcsMade;
            from[arc] = a;
            to[arc] = b;
            weight[arc] = w;
            arcsMade++;
            arcsLeft++;
            addBetween(a, b, w);
            return arc;
        }

        int removeArc(int arc) {
            addBetween(from[arc], to[arc], -weight[arc]);
            weight[arc] = 0;
            arcsLeft--;
            return arcsLeft;
        }

        private void addBetween(int a, int b, int w) {
            changes++;
            weightBetween[a][b] += w;
            weightBetween[b][a] += w;
            if (areJoined(a, b)) {
                neighbours[a] |= 1 << b;
                neighbours[b] |= 1 << a;
            } else {
                neighbours[a] &= ~(1 << b);
                neighbours[b] &= ~(1 << a);
            }
        }

        /** The numbers of NODES and ARCS begin again at 0, as in a new object. */
        int removeAll() {
            int were = nodes;
            for (int v = 0; v < MOST_NODES; v++) {
                neighbours[v] = 0;
                for (int u = 0; u < MOST_NODES; u++) {
                    weightBetween[v][u] = 0;
                }
            }
            nodes = 0;
            arcsMade = 0;
            arcsLeft = 0;
            changes++;
            return were;
        }

        int cutAround(int set) {
            int sum = 0;
            for (int i = 0; i < arcsMade; i++) {
                if (((set >> from[i]) & 1) != ((set >> to[i]) & 1)) {
                    sum += weight[i];
                }
            }
            return sum;
        }

        int weightAt(int v) {
            int sum = 0;
            for (int u = 0; u < nodes; u++) {
                sum += weightBetween[v][u];
            }
            return sum;
        }

        /** How many NODES a SET has, times how many it has not. */
        int spread(int set) {
            int has = Integer.bitCount(set);
            return has * (nodes - has);
        }

        /** The NODES that ways from `start` come to without leaving the SET `open`. */
        private int reachedFrom(int start, int open) {
            int reached = 1 << start;
            for (int round = 0; round < nodes; round++) {
                int further = reached;
                for (int v = 0; v < nodes; v++) {
                    if (((reached >> v) & 1) == 1) {
                        further |= neighbours[v] & open;
                    }
                }
                if (further == reached) {
                    break;
                }
                reached = further;
            }
            return reached;
        }

        int countConnected(int open) {
            int count = 0;
            int left = open;
            for (int v = 0; v < nodes; v++) {
                if (((left >> v) & 1) == 1) {
                    left &= ~reachedFrom(v, open);
                    count++;
                }
            }
            return count;
        }

        /** For two NODES that no ARC joins, so that all other NODES together are BARS. */
        int fewestBars(int a, int b) {
            int all = allNodes();
            int others = all & ~(1 << a) & ~(1 << b);
            int best = others;
            int sets = 1 << (nodes - 2);
            int set = 0;
            for (int i = 0; i < sets; i++) {
                boolean isFewer = Integer.bitCount(set) < Integer.bitCount(best);
                if (isFewer && ((reachedFrom(a, all & ~set) >> b) & 1) == 0) {
                    best = set;
                }
                set = nextWithin(others, set);
            }
            return best;
        }
    }

    /**
     * The CUTS of all SETS without NODE 0; a SET with it has the CUT of what it leaves out.
     * All but `refresh` answer for the GRAPH as it was when `refresh` was called.
     */
    private static final class CutTable {
        final Graph graph;
        // The place is the SET's bits without that of NODE 0, which is never there.
        final int[] cuts = new int[1 << (MOST_NODES - 1)];
        int changesSeen = -1;

        CutTable(Graph graph) {
            this.graph = graph;
        }

        void refresh() {
            if (changesSeen == graph.changes) {
                return;
            }
            changesSeen = graph.changes;
            for (int v = 1; v < graph.nodes; v++) {
                fillSetsUpTo(v);
            }
        }

        /** Fills in the SETS whose highest NODE is v; those of lower NODES are there. */
        private void fillSetsUpTo(int v) {
            int start = 1 << (v - 1);
            // First only the weight between v and the rest of each SET, then the CUT from it.
            cuts[start] = 0;
            for (int u = 1; u < v; u++) {
                int bit = 1 << (u - 1);
                int weight = graph.weightBetween[v][u];
                for (int rest = 0; rest < bit; rest++) {
                    cuts[start + bit + rest] = cuts[start + rest] + weight;
                }
            }
            int weightAtNode = graph.weightAt(v);
            for (int rest = 0; rest < start; rest++) {
                cuts[start + rest] = cuts[rest] + weightAtNode - 2 * cuts[start + rest];
            }
        }

        /** For a SET whose NODES are all there. */
        int cutAt(int set) {
            int withoutFirst = (set & 1) == 0 ? set : graph.allNodes() & ~set;
            return cuts[withoutFirst >> 1];
        }

        int cutBetween(int a, int b) {
            return cutAt(sideAgainst(a, b));
        }

        /** THE SIDE lies within all others of its CUT, so it is the first of them by its bits. */
        int sideAgainst(int a, int b) {
            int own = 1 << a;
            int free = graph.allNodes() & ~own & ~(1 << b);
            int best = own;
            int bestCut = cutAt(own);
            int sides = 1 << (graph.nodes - 2);
            int rest = 0;
            for (int i = 1; i < sides; i++) {
                rest = nextWithin(free, rest);
                int cut = cutAt(own | rest);
                if (cut < bestCut) {
                    best = own | rest;
                    bestCut = cut;
                }
            }
            return best;
        }

        int leastCut() {
            int least = cutAt(2);
            for (int set = 4; set <= graph.allNodes(); set += 2) {
                least = Math.min(least, cutAt(set));
            }
            return least;
        }

        int countLeastOnes() {
            int least = leastCut();
            int count = 0;
            for (int set = 2; set <= graph.allNodes(); set += 2) {
                if (cutAt(set) == least) {
                    count++;
                }
            }
            return count;
        }

        int leastOne(int k) {
            int least = leastCut();
            int before = 0;
            for (int set = 2; set <= graph.allNodes(); set += 2) {
                if (cutAt(set) == least) {
                    if (before == k) {
                        return set;
                    }
                    before++;
                }
            }
            return NO_SUCH;
        }

        int sparsestSide() {
            int best = 2;
            int bestCut = cutAt(2);
            int bestSpread = graph.spread(2);
            for (int set = 4; set <= graph.allNodes(); set += 2) {
                int cut = cutAt(set);
                int spread = graph.spread(set);
                if (cut * bestSpread < bestCut * spread) {
                    best = set;
                    bestCut = cut;
                    bestSpread = spread;
                }
            }
            return best;
        }
    }

    /** THE TREE; `refresh` wants a fresh table. */
    private static final class PairTree {
        final Graph graph;
        final CutTable table;
        final int[] parents = new int[MOST_NODES];
        final int[] branches = new int[MOST_NODES];
        int changesSeen = -1;

        PairTree(Graph graph, CutTable table) {
            this.graph = graph;
            this.table = table;
        }

        void refresh() {
            if (changesSeen == graph.changes) {
                return;
            }
            changesSeen = graph.changes;
            for (int v = 0; v < graph.nodes; v++) {
                parents[v] = 0;
            }
            for (int v = 1; v < graph.nodes; v++) {
                hang(v);
            }
        }

        private void hang(int v) {
            int above = parents[v];
            int side = table.sideAgainst(v, above);
            branches[v] = table.cutAt(side);
            for (int u = v + 1; u < graph.nodes; u++) {
                if (parents[u] == above && ((side >> u) & 1) == 1) {
                    parents[u] = v;
                }
            }
        }

        int leastBranchBetween(int a, int b) {
            int least = Integer.MAX_VALUE;
            int low = a;
            int high = b;
            // A PARENT's number is below its NODE's, so the higher of the two ends goes up.
            for (int step = 0; step < 2 * MOST_NODES && low != high; step++) {
                int lower = Math.min(low, high);
                high = Math.max(low, high);
                low = lower;
                least = Math.min(least, branches[high]);
                high = parents[high];
            }
            return least;
        }
    }

    /** DRAWING: each NODE's GROUP is kept as a SET. */
    private static final class Drawing {
        final Graph graph;
        final int[] groups = new int[MOST_NODES];

        Drawing(Graph graph) {
            this.graph = graph;
        }

        /** For a GRAPH that has NODES. */
        int drawBy(int seed) {
            for (int v = 0; v < graph.nodes; v++) {
                groups[v] = 1 << v;
            }
            int z = seed;
            for (int count = graph.nodes; count > 2; count--) {
                int sum = weightBetweenGroups();
                if (sum < 1) {
                    break;
                }
                z = z * SEED_FACTOR + SEED_STEP;
                joinByArcAt((z >>> 1) % sum);
            }
            return groups[0];
        }

        private boolean isBetweenGroups(int arc) {
            return groups[graph.from[arc]] != groups[graph.to[arc]];
        }

        private int weightBetweenGroups() {
            int sum = 0;
            for (int i = 0; i < graph.arcsMade; i++) {
                if (isBetweenGroups(i)) {
                    sum += graph.weight[i];
                }
            }
            return sum;
        }

        private void joinByArcAt(int t) {
            int sum = 0;
            for (int i = 0; i < graph.arcsMade; i++) {
                if (isBetweenGroups(i)) {
                    sum += graph.weight[i];
                    if (sum > t) {
                        joinGroups(groups[graph.from[i]] | groups[graph.to[i]]);
                        return;
                    }
                }
            }
        }

        private void joinGroups(int joined) {
            for (int v = 0; v < graph.nodes; v++) {
                if (((joined >> v) & 1) == 1) {
                    groups[v] = joined;
                }
            }
        }
    }

    /** THE PARTS for one k. */
    private static final class Parting {
        final Graph graph;
        final int k;
        final int[] tried = new int[MOST_NODES_IN_PARTS];
        final int[] best = new int[MOST_NODES_IN_PARTS];
        int leastCost = 0;
        int changesSeen = -1;

        Parting(Graph graph, int k) {
            this.graph = graph;
            this.k = k;
        }

        void refresh() {
            if (changesSeen == graph.changes || graph.nodes > MOST_NODES_IN_PARTS) {
                return;
            }
            changesSeen = graph.changes;
            leastCost = Integer.MAX_VALUE;
            tryFrom(this, 0, 0, 0);
        }

        /**
         * Tries the numbers of NODE v and those above it, the least first, so that the first of
         * the least cost is the one that is sought. No number is tried before the one below it is
         * used: with these two changed for each other, the cost is the same and the lesser ahead.
         */
        private static void tryFrom(Parting parting, int v, int used, int cost) {
            int nodes = parting.graph.nodes;
            boolean canUseAll = parting.k - used <= nodes - v;
            if (!canUseAll || cost >= parting.leastCost) {
                return;
            }
            if (v >= nodes) {
                parting.keepTried(cost);
                return;
            }
            for (int number = 0; number <= used && number < parting.k; number++) {
                parting.tried[v] = number;
                int more = parting.costToLower(v);
                tryFrom(parting, v + 1, Math.max(used, number + 1), cost + more);
            }
        }

        private int costToLower(int v) {
            int sum = 0;
            for (int u = 0; u < v; u++) {
                if (tried[u] != tried[v]) {
                    sum += graph.weightBetween[v][u];
                }
            }
            return sum;
        }

        private void keepTried(int cost) {
            leastCost = cost;
            for (int v = 0; v < graph.nodes; v++) {
                best[v] = tried[v];
            }
        }
    }
}

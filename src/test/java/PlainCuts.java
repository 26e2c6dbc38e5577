import java.util.ArrayList;
import java.util.List;

/** The document's words, done one after another without thought of speed: what answers are due. */
final class PlainCuts {
    private record Arc(int a, int b, int weight) { }

    private int n = 0;
    private final List<Arc> arcs = new ArrayList<>();

    int nodes() {
        return n;
    }

    int node() {
        return n == 12 ? -4 : n++;
    }

    int arc(int a, int b, int weight) {
        if (noPair(a, b)) return -1;
        if (weight < 1 || weight > 1000) return -2;
        if (arcs.size() == 50) return -4;
        arcs.add(new Arc(a, b, weight));
        return arcs.size() - 1;
    }

    int drop(int arc) {
        if (arc < 0 || arc >= arcs.size() || arcs.get(arc) == null) return -1;
        arcs.set(arc, null);
        return living().size();
    }

    int clear() {
        int were = n;
        n = 0;
        arcs.clear();
        return were;
    }

    private List<Arc> living() {
        return arcs.stream().filter(arc -> arc != null).toList();
    }

    private boolean noNode(int v) {
        return v < 0 || v >= n;
    }

    private boolean noPair(int a, int b) {
        return noNode(a) || noNode(b) || a == b;
    }

    private static boolean in(int v, int set) {
        return (set & (1 << v)) != 0;
    }

    private int all() {
        return (1 << n) - 1;
    }

    private boolean noSet(int set) {
        return (set & ~all()) != 0;
    }

    int cut(int set) {
        return noSet(set) ? -2 : cutOf(set);
    }

    private int cutOf(int set) {
        return living().stream().filter(arc -> in(arc.a, set) != in(arc.b, set)).mapToInt(Arc::weight).sum();
    }

    int pair(int a, int b) {
        if (noPair(a, b)) return -1;
        int least = Integer.MAX_VALUE;
        for (int set = 1; set < all(); set++) {
            if (in(a, set) && !in(b, set)) least = Math.min(least, cutOf(set));
        }
        return least;
    }

    int side(int a, int b) {
        if (noPair(a, b)) return -1;
        int least = pair(a, b);
        int common = all();
        for (int set = 1; set < all(); set++) {
            if (in(a, set) && !in(b, set) && cutOf(set) == least) common &= set;
        }
        return common;
    }

    /** Row 0 has the PARENTS, row 1 the BRANCHES. */
    private int[][] tree() {
        int[][] tree = new int[2][n];
        for (int i = 1; i < n; i++) {
            int p = tree[0][i];
            tree[1][i] = pair(i, p);
            int side = side(i, p);
            for (int j = i + 1; j < n; j++) {
                if (tree[0][j] == p && in(j, side)) tree[0][j] = i;
            }
        }
        return tree;
    }

    int parent(int v) {
        return noNode(v) ? -1 : v == 0 ? -3 : tree()[0][v];
    }

    int branch(int v) {
        return noNode(v) ? -1 : v == 0 ? -3 : tree()[1][v];
    }

    int way(int a, int b) {
        return noPair(a, b) ? -1 : wayFrom(tree(), a, -1, b, Integer.MAX_VALUE);
    }

    private int wayFrom(int[][] tree, int at, int before, int goal, int least) {
        if (at == goal) return least;
        for (int v = 1; v < n; v++) {
            int p = tree[0][v];
            int next = v == at ? p : p == at ? v : -1;
            if (next >= 0 && next != before) {
                int found = wayFrom(tree, next, at, goal, Math.min(least, tree[1][v]));
                if (found >= 0) return found;
            }
        }
        return -1;
    }

    int least() {
        int least = -3;
        for (int set = 1; set < all(); set++) {
            int cut = cutOf(set);
            if (least < 0 || cut < least) least = cut;
        }
        return least;
    }

    private List<Integer> leastOnes() {
        List<Integer> ones = new ArrayList<>();
        int least = least();
        for (int set = 1; set < all(); set++) {
            if (!in(0, set) && cutOf(set) == least) ones.add(set);
        }
        return ones;
    }

    int counted() {
        return leastOnes().size();
    }

    int every(int k) {
        List<Integer> ones = leastOnes();
        return k < 0 || k >= ones.size() ? -1 : ones.get(k);
    }

    int drawn(int seed) {
        if (n < 2) return -3;
        int[] group = new int[n];
        for (int v = 0; v < n; v++) group[v] = v;
        long z = seed & 0xFFFFFFFFL;
        for (int left = n; left > 2; left--) {
            List<Arc> between = living().stream().filter(arc -> group[arc.a] != group[arc.b]).toList();
            if (between.isEmpty()) break;
            z = (z * 1664525L + 1013904223L) & 0xFFFFFFFFL;
            long t = (z >> 1) % between.stream().mapToInt(Arc::weight).sum();
            int i = 0;
            for (long sum = between.get(0).weight; sum <= t; sum += between.get(i).weight) i++;
            int from = group[between.get(i).a];
            int to = group[between.get(i).b];
            for (int v = 0; v < n; v++) if (group[v] == from) group[v] = to;
        }
        int set = 0;
        for (int v = 0; v < n; v++) if (group[v] == group[0]) set |= 1 << v;
        return set;
    }

    private int refusalOfParts(int k) {
        return k < 1 || k > 4 ? -2 : n > 10 ? -4 : n < k ? -3 : 0;
    }

    /** The numbers of THE PARTS, then their cost. */
    private int[] bestParts(int k) {
        int[] best = null;
        int[] now = new int[n + 1];
        List<Arc> living = living();
        int ways = 1;
        for (int v = 0; v < n; v++) ways *= k;
        for (int way = 0; way < ways; way++) {
            int used = 0;
            int left = way;
            for (int v = n - 1; v >= 0; v--) {
                now[v] = left % k;
                left /= k;
                used |= 1 << now[v];
            }
            if (used != (1 << k) - 1) continue;
            now[n] = 0;
            for (Arc arc : living) if (now[arc.a] != now[arc.b]) now[n] += arc.weight;
            if (best == null || now[n] < best[n]) best = now.clone();
        }
        return best;
    }

    int parts(int k) {
        return refusalOfParts(k) < 0 ? refusalOfParts(k) : bestParts(k)[n];
    }

    int partOf(int k, int v) {
        if (noNode(v)) return -1;
        return refusalOfParts(k) < 0 ? refusalOfParts(k) : bestParts(k)[v];
    }

    private int product(int set) {
        return Integer.bitCount(set) * Integer.bitCount(all() & ~set);
    }

    int sparsest() {
        int best = -3;
        for (int set = 1; set < all(); set++) {
            if (in(0, set)) continue;
            if (best < 0 || (long) cutOf(set) * product(best) < (long) cutOf(best) * product(set)) best = set;
        }
        return best;
    }

    int share(int part) {
        if (part < 0 || part > 1) return -2;
        int side = sparsest();
        if (side < 0) return -3;
        int a = cutOf(side);
        int b = product(side);
        int[] terms = {a, b};
        while (b != 0) {
            int rest = a % b;
            a = b;
            b = rest;
        }
        return terms[part] / a;
    }

    /** Joins each NODE outside the SET with its connected part, told by that part's least NODE. */
    private int[] partsWithout(int set) {
        int[] part = new int[n];
        for (int v = 0; v < n; v++) part[v] = v;
        for (int round = 0; round < n; round++) {
            for (Arc arc : living()) {
                if (in(arc.a, set) || in(arc.b, set)) continue;
                part[arc.a] = part[arc.b] = Math.min(part[arc.a], part[arc.b]);
            }
        }
        return part;
    }

    int barSet(int a, int b) {
        if (noPair(a, b)) return -1;
        if (living().stream().anyMatch(arc -> arc.a == a && arc.b == b || arc.a == b && arc.b == a)) return -3;
        for (int count = 0; count <= n; count++) {
            for (int set = 0; set <= all(); set++) {
                if (Integer.bitCount(set) != count || in(a, set) || in(b, set)) continue;
                int[] part = partsWithout(set);
                if (part[a] != part[b]) return set;
            }
        }
        throw new IllegalStateException("no bars");
    }

    int bars(int a, int b) {
        int set = barSet(a, b);
        return set < 0 ? set : Integer.bitCount(set);
    }

    int without(int set) {
        if (noSet(set)) return -2;
        int[] part = partsWithout(set);
        int count = 0;
        for (int v = 0; v < n; v++) if (!in(v, set) && part[v] == v) count++;
        return count;
    }
}

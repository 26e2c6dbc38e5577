/** Each promise by its number: ordinary inputs, the edges that the document names, wrong inputs. */
public final class PromisesTest {
    private static final int[] ODD = {Integer.MIN_VALUE, -2, -1, 12, 31, 32, 50, Integer.MAX_VALUE};
    private static final Due due = new Due();

    public static void main(String[] args) {
        promise1NewObject();
        promise2Node();
        promise3Arc();
        promise4Drop();
        promise5Clear();
        promise6Cut();
        promises7And8PairAndSide();
        promises9And10ParentAndBranch();
        promise11Way();
        promises12To14Least();
        promise15Drawn();
        promises16And17Parts();
        promises18And19Sparsest();
        promises20And21Bars();
        promise22Without();
        refusalsChangeNothing();
        keptAnswersFollowChanges();
        due.finish("PromisesTest");
    }

    private static CutTrees nodes(int count) {
        CutTrees x = new CutTrees();
        for (int i = 0; i < count; i++) {
            x.node();
        }
        return x;
    }

    /** Rows of a, b, weight. */
    private static CutTrees graph(int count, int... rows) {
        CutTrees x = nodes(count);
        for (int i = 0; i < rows.length; i += 3) {
            due.is("arc of graph", x.arc(rows[i], rows[i + 1], rows[i + 2]), i / 3);
        }
        return x;
    }

    private static CutTrees complete(int count, int weight) {
        CutTrees x = nodes(count);
        for (int a = 0; a < count; a++) {
            for (int b = a + 1; b < count; b++) {
                x.arc(a, b, weight);
            }
        }
        return x;
    }

    private static void promise1NewObject() {
        CutTrees x = new CutTrees();
        due.is("new clear()", x.clear(), 0);
        due.is("new cut(0)", x.cut(0), 0);
        due.is("new without(0)", x.without(0), 0);
        due.is("new parent(0)", x.parent(0), -1);
        due.is("new branch(0)", x.branch(0), -1);
        due.is("new drop(0)", x.drop(0), -1);
        CutTrees y = nodes(3);
        due.is("objects do not share NODES", x.node(), 0);
        due.is("objects do not share NODES", y.node(), 3);
    }

    private static void promise2Node() {
        CutTrees x = new CutTrees();
        for (int i = 0; i < 12; i++) {
            due.is("node()", x.node(), i);
        }
        due.is("node() beyond 12", x.node(), -4);
        due.is("node() beyond 12", x.node(), -4);
        due.is("NODE 11 is there", x.arc(11, 0, 1), 0);
        due.is("NODE 12 is not", x.arc(12, 0, 1), -1);
    }

    private static void promise3Arc() {
        CutTrees x = nodes(3);
        for (int odd : ODD) {
            due.is("arc(odd, 0, 1)", x.arc(odd, 0, 1), -1);
            due.is("arc(0, odd, 1)", x.arc(0, odd, 1), -1);
        }
        due.is("arc(0, 3, 1)", x.arc(0, 3, 1), -1);
        due.is("arc(1, 1, 1)", x.arc(1, 1, 1), -1);
        due.is("arc(1, 1, 0): -1 ahead of -2", x.arc(1, 1, 0), -1);
        due.is("arc(0, 1, 0)", x.arc(0, 1, 0), -2);
        due.is("arc(0, 1, -5)", x.arc(0, 1, -5), -2);
        due.is("arc(0, 1, 1001)", x.arc(0, 1, 1001), -2);
        due.is("arc(0, 1, MIN)", x.arc(0, 1, Integer.MIN_VALUE), -2);
        due.is("arc(0, 1, MAX)", x.arc(0, 1, Integer.MAX_VALUE), -2);
        due.is("arc(0, 1, 1)", x.arc(0, 1, 1), 0);
        due.is("arc(1, 0, 1000), as far as a weight goes", x.arc(1, 0, 1000), 1);
        due.is("several ARCS join the same two", x.cut(1), 1001);
        due.is("drop(0)", x.drop(0), 1);
        for (int i = 2; i < 50; i++) {
            due.is("arc, the dropped one's number does not come again", x.arc(1, 2, 1), i);
        }
        due.is("arc beyond 50, one dropped", x.arc(1, 2, 1), -4);
        due.is("arc beyond 50: -1 first", x.arc(1, 3, 0), -1);
        due.is("arc beyond 50: then -2", x.arc(1, 2, 0), -2);
        due.is("the refused ones have no weight", x.cut(4), 48);
    }

    private static void promise4Drop() {
        CutTrees x = graph(3, 0, 1, 5, 1, 2, 7, 0, 1, 11);
        for (int odd : ODD) {
            due.is("drop(odd)", x.drop(odd), -1);
        }
        due.is("drop(3)", x.drop(3), -1);
        due.is("drop(0)", x.drop(0), 2);
        due.is("drop(0) again", x.drop(0), -1);
        due.is("the other ARC of the two stays", x.cut(1), 11);
        due.is("drop(2)", x.drop(2), 1);
        due.is("no ARC is left", x.cut(1), 0);
        due.is("drop(1)", x.drop(1), 0);
        due.is("arc after all were dropped", x.arc(0, 1, 1), 3);
        due.is("drop(3)", x.drop(3), 0);
    }

    private static void promise5Clear() {
        CutTrees x = complete(10, 3);
        due.is("clear()", x.clear(), 10);
        due.is("clear() again", x.clear(), 0);
        due.is("drop(0) after clear", x.drop(0), -1);
        due.is("cut(1) after clear", x.cut(1), -2);
        due.is("least() after clear", x.least(), -3);
        due.is("node() after clear", x.node(), 0);
        due.is("node() after clear", x.node(), 1);
        due.is("the ARCS are gone", x.cut(1), 0);
        due.is("the ARCS are gone", x.pair(0, 1), 0);
        due.is("the ARCS are gone", x.without(0), 2);
        due.is("the ARCS are gone", x.bars(0, 1), 0);
        due.is("drop(0) after clear and node", x.drop(0), -1);
        for (int i = 0; i < 50; i++) {
            due.is("arc() after clear, as in a new object", x.arc(0, 1, 1), i);
        }
        due.is("arc() after clear, beyond 50", x.arc(0, 1, 1), -4);
        due.is("clear()", x.clear(), 2);
        for (int i = 0; i < 12; i++) {
            due.is("node() after clear", x.node(), i);
        }
        due.is("node() after clear, beyond 12", x.node(), -4);
    }

    private static void promise6Cut() {
        CutTrees x = graph(4, 0, 1, 1, 1, 2, 10, 2, 3, 100, 3, 0, 1000);
        due.is("cut(0)", x.cut(0), 0);
        due.is("cut(15)", x.cut(15), 0);
        due.is("cut(1)", x.cut(1), 1001);
        due.is("cut(14)", x.cut(14), 1001);
        due.is("cut(5)", x.cut(5), 1111);
        due.is("cut(6)", x.cut(6), 101);
        due.is("cut(16)", x.cut(16), -2);
        due.is("cut(17)", x.cut(17), -2);
        due.is("cut(-1)", x.cut(-1), -2);
        due.is("cut(MIN)", x.cut(Integer.MIN_VALUE), -2);
        due.is("cut(MAX)", x.cut(Integer.MAX_VALUE), -2);
        CutTrees all = nodes(12);
        due.is("cut(4095)", all.cut(4095), 0);
        due.is("cut(4096)", all.cut(4096), -2);
    }

    private static void promises7And8PairAndSide() {
        CutTrees x = graph(5, 0, 1, 4, 1, 2, 2, 2, 3, 2, 3, 4, 4);
        due.is("pair(0, 4)", x.pair(0, 4), 2);
        due.is("side(0, 4): the least of several", x.side(0, 4), 3);
        due.is("side(4, 0): the least of several", x.side(4, 0), 24);
        due.is("pair(0, 1)", x.pair(0, 1), 4);
        due.is("side(0, 1)", x.side(0, 1), 1);
        due.is("side(1, 0)", x.side(1, 0), 30);
        due.is("side(2, 1): others than the ends", x.side(2, 1), 28);
        CutTrees apart = graph(4, 0, 1, 9, 2, 3, 9);
        due.is("pair(0, 2) apart", apart.pair(0, 2), 0);
        due.is("side(0, 2) apart", apart.side(0, 2), 3);
        due.is("side(3, 1) apart", apart.side(3, 1), 12);
        for (int odd : ODD) {
            due.is("pair(odd, 0)", x.pair(odd, 0), -1);
            due.is("pair(0, odd)", x.pair(0, odd), -1);
            due.is("side(odd, 0)", x.side(odd, 0), -1);
            due.is("side(0, odd)", x.side(0, odd), -1);
        }
        due.is("pair(2, 2)", x.pair(2, 2), -1);
        due.is("side(2, 2)", x.side(2, 2), -1);
        due.is("pair(0, 5)", x.pair(0, 5), -1);
        due.is("side(5, 0)", x.side(5, 0), -1);
    }

    private static void promises9And10ParentAndBranch() {
        CutTrees x = graph(5, 0, 1, 4, 1, 2, 2, 2, 3, 2, 3, 4, 4);
        int[] parents = {-3, 0, 1, 2, 3};
        int[] branches = {-3, 4, 2, 2, 4};
        for (int v = 0; v < 5; v++) {
            due.is("parent(" + v + ")", x.parent(v), parents[v]);
            due.is("branch(" + v + ")", x.branch(v), branches[v]);
        }
        // 1 against 0 has 2 and 3 with it (CUT 1); 2 against 1 has 0 and 3 with it (CUT 2).
        CutTrees star = graph(4, 3, 0, 1, 3, 1, 2, 3, 2, 3);
        int[] starParents = {-3, 0, 1, 2};
        int[] starBranches = {-3, 1, 2, 3};
        for (int v = 0; v < 4; v++) {
            due.is("star parent(" + v + ")", star.parent(v), starParents[v]);
            due.is("star branch(" + v + ")", star.branch(v), starBranches[v]);
        }
        for (int odd : ODD) {
            due.is("parent(odd)", x.parent(odd), -1);
            due.is("branch(odd)", x.branch(odd), -1);
        }
        due.is("parent(5)", x.parent(5), -1);
        due.is("branch(5)", x.branch(5), -1);
        CutTrees one = nodes(1);
        due.is("parent(0) of one", one.parent(0), -3);
        due.is("branch(0) of one", one.branch(0), -3);
        due.is("parent(1) of one", one.parent(1), -1);
    }

    private static void promise11Way() {
        CutTrees x = graph(5, 0, 1, 4, 1, 2, 2, 2, 3, 3, 3, 4, 5);
        due.is("way(0, 4)", x.way(0, 4), 2);
        due.is("way(4, 0)", x.way(4, 0), 2);
        due.is("way(4, 2)", x.way(4, 2), 3);
        due.is("way(3, 4)", x.way(3, 4), 5);
        due.is("way(0, 1)", x.way(0, 1), 4);
        due.is("way without ARCS", nodes(3).way(1, 2), 0);
        for (int odd : ODD) {
            due.is("way(odd, 0)", x.way(odd, 0), -1);
            due.is("way(0, odd)", x.way(0, odd), -1);
        }
        due.is("way(3, 3)", x.way(3, 3), -1);
        due.is("way(5, 3)", x.way(5, 3), -1);
    }

    private static void promises12To14Least() {
        for (int count = 0; count < 2; count++) {
            CutTrees few = nodes(count);
            due.is("least() without a SIDE", few.least(), -3);
            due.is("counted() without a SIDE", few.counted(), 0);
            due.is("every(0) without a SIDE", few.every(0), -1);
        }
        CutTrees two = graph(2, 0, 1, 1000);
        due.is("least() of two", two.least(), 1000);
        due.is("counted() of two", two.counted(), 1);
        due.is("every(0) of two", two.every(0), 2);
        due.is("every(1) of two", two.every(1), -1);
        CutTrees none = nodes(12);
        due.is("least() without ARCS", none.least(), 0);
        due.is("counted() without ARCS", none.counted(), 2047);
        due.is("every(0) without ARCS", none.every(0), 2);
        due.is("every(2046) without ARCS", none.every(2046), 4094);
        due.is("every(2047) without ARCS", none.every(2047), -1);
        CutTrees path = graph(4, 0, 1, 3, 1, 2, 2, 2, 3, 2);
        due.is("least() of a path", path.least(), 2);
        due.is("counted() of a path", path.counted(), 2);
        due.is("every(0) of a path", path.every(0), 8);
        due.is("every(1) of a path", path.every(1), 12);
        due.is("every(-1)", path.every(-1), -1);
        due.is("every(MIN)", path.every(Integer.MIN_VALUE), -1);
        due.is("every(MAX)", path.every(Integer.MAX_VALUE), -1);
        CutTrees first = graph(3, 0, 1, 1, 1, 2, 9);
        due.is("NODE 0 alone is told by the others", first.every(0), 6);
    }

    private static void promise15Drawn() {
        due.is("drawn(1) of none", nodes(0).drawn(1), -3);
        due.is("drawn(1) of one", nodes(1).drawn(1), -3);
        due.is("drawn(1) of two", graph(2, 0, 1, 7).drawn(1), 1);
        due.is("drawn(1) without ARCS", nodes(12).drawn(1), 1);
        due.is("more than two GROUPS left", graph(5, 0, 3, 2, 1, 2, 2).drawn(8), 9);
        // z = 1013904223 + 0, half of it 506952111, modulo 3 is 0: ARC 0.
        due.is("drawn(0)", graph(3, 1, 2, 1, 0, 1, 1, 0, 2, 1).drawn(0), 1);
        // z = 1015568748 for 1, half of it 507784374, modulo 1000 is 374: above 373 is ARC 1.
        CutTrees x = graph(3, 1, 2, 374, 0, 1, 1, 0, 2, 625);
        due.is("drawn(1), the sum must be above t", x.drawn(1), 3);
        CutTrees y = graph(3, 1, 2, 375, 0, 1, 1, 0, 2, 624);
        due.is("drawn(1), the sum is above t", y.drawn(1), 1);
        // Among these seeds are some whose z has its highest bit: zeros come in when it is moved.
        CutTrees w = graph(3, 1, 2, 7, 0, 1, 1, 0, 2, 2);
        for (int seed = -1000; seed < -900; seed++) {
            due.is("drawn(" + seed + ")", w.drawn(seed), drawnOfThree(seed));
        }
        // Two ARCS join the same GROUPS after the first drawing; a dropped one has no weight.
        CutTrees v = graph(3, 0, 1, 1000, 1, 2, 1, 0, 2, 1);
        v.drop(0);
        for (int seed = 0; seed < 50; seed++) {
            int got = v.drawn(seed);
            due.holds("a dropped ARC is not drawn", got == 1 || got == 5);
        }
    }

    /** For ARCS 1-2 of weight 7, 0-1 of 1, 0-2 of 2. */
    private static int drawnOfThree(int seed) {
        long z = (seed * 1664525L + 1013904223L) & 0xFFFFFFFFL;
        long t = (z / 2) % 10;
        return t < 7 ? 1 : t < 8 ? 3 : 5;
    }

    private static void promises16And17Parts() {
        CutTrees x = graph(6, 0, 1, 5, 1, 2, 5, 3, 4, 5, 4, 5, 5, 2, 3, 1);
        int[][] numbers = {{}, {0, 0, 0, 0, 0, 0}, {0, 0, 0, 1, 1, 1}, {0, 0, 0, 1, 1, 2}, {0, 0, 0, 1, 2, 3}};
        int[] costs = {0, 0, 1, 6, 11};
        for (int k = 1; k <= 4; k++) {
            due.is("parts(" + k + ")", x.parts(k), costs[k]);
            for (int v = 0; v < 6; v++) {
                due.is("partOf(" + k + ", " + v + ")", x.partOf(k, v), numbers[k][v]);
            }
        }
        for (int odd : ODD) {
            due.is("parts(odd)", x.parts(odd), -2);
            due.is("partOf(odd, 0)", x.partOf(odd, 0), -2);
            due.is("partOf(1, odd)", x.partOf(1, odd), -1);
            due.is("partOf(odd, odd): -1 first", x.partOf(odd, odd), -1);
        }
        due.is("parts(0)", x.parts(0), -2);
        due.is("parts(5)", x.parts(5), -2);
        due.is("partOf(0, 6): -1 first", x.partOf(0, 6), -1);
        due.is("partOf(5, 5)", x.partOf(5, 5), -2);
        for (int count = 0; count < 4; count++) {
            CutTrees few = nodes(count);
            due.is("parts of as many", few.parts(Math.max(count, 1)), count == 0 ? -3 : 0);
            due.is("parts of one more", few.parts(count + 1), -3);
            due.is("partOf of one more", few.partOf(count + 1, 0), count == 0 ? -1 : -3);
        }
        CutTrees ten = complete(10, 2);
        due.is("parts(4) of ten", ten.parts(4), 48);
        due.is("partOf(4, 6) of ten", ten.partOf(4, 6), 0);
        due.is("partOf(4, 7) of ten", ten.partOf(4, 7), 1);
        due.is("partOf(4, 9) of ten", ten.partOf(4, 9), 3);
        ten.node();
        due.is("parts(4) of eleven", ten.parts(4), -4);
        due.is("parts(1) of eleven", ten.parts(1), -4);
        due.is("parts(5) of eleven: -2 first", ten.parts(5), -2);
        due.is("partOf(2, 10) of eleven", ten.partOf(2, 10), -4);
        due.is("partOf(2, 11) of eleven: -1 first", ten.partOf(2, 11), -1);
        due.is("partOf(0, 10) of eleven: -2 ahead of -4", ten.partOf(0, 10), -2);
    }

    private static void promises18And19Sparsest() {
        for (int count = 0; count < 2; count++) {
            CutTrees few = nodes(count);
            due.is("sparsest() without a SIDE", few.sparsest(), -3);
            due.is("share(0) without a SIDE", few.share(0), -3);
            due.is("share(1) without a SIDE", few.share(1), -3);
            due.is("share(2) without a SIDE: -2 first", few.share(2), -2);
        }
        CutTrees none = nodes(5);
        due.is("sparsest() without ARCS", none.sparsest(), 2);
        due.is("share(0) without ARCS", none.share(0), 0);
        due.is("share(1) without ARCS", none.share(1), 1);
        due.is("share(-1)", none.share(-1), -2);
        due.is("share(MAX)", none.share(Integer.MAX_VALUE), -2);
        // The least CUT is 3 for {5}, by 5; the middle has 4 by 9.
        CutTrees x = graph(6, 0, 1, 9, 1, 2, 9, 0, 2, 9, 3, 4, 9, 3, 5, 2, 4, 5, 1, 2, 3, 4);
        due.is("least() is another", x.every(0), 32);
        due.is("sparsest() in the middle", x.sparsest(), 56);
        due.is("share(0)", x.share(0), 4);
        due.is("share(1)", x.share(1), 9);
        CutTrees y = graph(4, 0, 1, 8, 2, 3, 8, 1, 2, 6);
        due.is("sparsest() y", y.sparsest(), 12);
        due.is("share(0) in lowest terms", y.share(0), 3);
        due.is("share(1) in lowest terms", y.share(1), 2);
        CutTrees same = complete(4, 1);
        due.is("all are as sparse: the least bits", same.sparsest(), 2);
        due.is("share(0) of all as sparse", same.share(0), 1);
        due.is("share(1) of all as sparse", same.share(1), 1);
    }

    private static void promises20And21Bars() {
        CutTrees x = graph(6, 0, 1, 1, 0, 2, 1, 1, 3, 1, 2, 3, 1, 3, 4, 1);
        due.is("bars(0, 3)", x.bars(0, 3), 2);
        due.is("barSet(0, 3)", x.barSet(0, 3), 6);
        due.is("bars(0, 4)", x.bars(0, 4), 1);
        due.is("barSet(0, 4)", x.barSet(0, 4), 8);
        due.is("barSet(4, 0)", x.barSet(4, 0), 8);
        due.is("bars(0, 5): no way at all", x.bars(0, 5), 0);
        due.is("barSet(0, 5): no way at all", x.barSet(0, 5), 0);
        due.is("bars(0, 1)", x.bars(0, 1), -3);
        due.is("barSet(1, 0)", x.barSet(1, 0), -3);
        for (int odd : ODD) {
            due.is("bars(odd, 0)", x.bars(odd, 0), -1);
            due.is("bars(0, odd)", x.bars(0, odd), -1);
            due.is("barSet(odd, 0)", x.barSet(odd, 0), -1);
            due.is("barSet(0, odd)", x.barSet(0, odd), -1);
        }
        due.is("bars(2, 2)", x.bars(2, 2), -1);
        due.is("barSet(2, 2)", x.barSet(2, 2), -1);
        due.is("bars(6, 2)", x.bars(6, 2), -1);
        due.is("bars of two alone", nodes(2).bars(0, 1), 0);
        x.arc(0, 3, 5);
        due.is("bars(0, 3) joined", x.bars(0, 3), -3);
        x.arc(3, 0, 5);
        x.drop(5);
        due.is("bars(0, 3) joined by one more", x.bars(0, 3), -3);
        x.drop(6);
        due.is("barSet(0, 3) joined no more", x.barSet(0, 3), 6);
        // 2 and 3 part 0 and 1, and so do 4 and 5, and 6 alone.
        CutTrees y = graph(7, 0, 2, 1, 0, 3, 1, 2, 4, 1, 3, 5, 1, 4, 6, 1, 5, 6, 1, 6, 1, 1);
        due.is("fewest ahead of least bits", y.barSet(0, 1), 64);
        due.is("least bits of the fewest", y.barSet(0, 6), 12);
    }

    private static void promise22Without() {
        CutTrees x = graph(5, 0, 1, 1, 1, 2, 1, 2, 3, 1);
        due.is("without(0)", x.without(0), 2);
        due.is("without(2)", x.without(2), 3);
        due.is("without(6)", x.without(6), 3);
        due.is("without(16)", x.without(16), 1);
        due.is("without(31)", x.without(31), 0);
        due.is("without(21)", x.without(21), 2);
        due.is("without(32)", x.without(32), -2);
        due.is("without(-1)", x.without(-1), -2);
        due.is("without(MIN)", x.without(Integer.MIN_VALUE), -2);
        due.is("without(MAX)", x.without(Integer.MAX_VALUE), -2);
        due.is("without(0) of twelve", nodes(12).without(0), 12);
        due.is("without(4095) of twelve", nodes(12).without(4095), 0);
        due.is("without(4096) of twelve", nodes(12).without(4096), -2);
    }

    private static void refusalsChangeNothing() {
        CutTrees x = graph(4, 0, 1, 1, 1, 2, 2, 2, 3, 3);
        x.arc(0, 0, 5);
        x.arc(0, 4, 5);
        x.arc(0, 1, 1001);
        x.drop(3);
        x.cut(16);
        x.parts(5);
        x.without(99);
        due.is("cut(1) after refusals", x.cut(1), 1);
        due.is("least() after refusals", x.least(), 1);
        due.is("arc after refusals has the next number", x.arc(0, 3, 4), 3);
        due.is("node after refusals has the next number", x.node(), 4);
    }

    private static void keptAnswersFollowChanges() {
        CutTrees x = graph(3, 0, 1, 5, 1, 2, 3);
        due.is("pair(0, 2)", x.pair(0, 2), 3);
        due.is("branch(2)", x.branch(2), 3);
        due.is("parts(2)", x.parts(2), 3);
        x.arc(0, 2, 1);
        due.is("pair(0, 2) after arc", x.pair(0, 2), 4);
        due.is("branch(2) after arc", x.branch(2), 4);
        due.is("parts(2) after arc", x.parts(2), 4);
        x.drop(1);
        due.is("pair(0, 2) after drop", x.pair(0, 2), 1);
        due.is("branch(2) after drop", x.branch(2), 1);
        due.is("parts(2) after drop", x.parts(2), 1);
        x.node();
        due.is("parts(2) after node", x.parts(2), 0);
        due.is("partOf(2, 3) after node", x.partOf(2, 3), 1);
        due.is("branch(3) after node", x.branch(3), 0);
        due.is("least() after node", x.least(), 0);
        x.clear();
        x.node();
        x.node();
        due.is("branch(1) after clear", x.branch(1), 0);
        due.is("parts(2) after clear", x.parts(2), 0);
    }
}

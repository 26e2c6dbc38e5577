import java.util.Random;

/** Long runs of calls, right and wrong ones, against the document done plainly. */
public final class RandomRunsTest {
    private static final int CALLS = 512;
    private static final int[] ODD = {Integer.MIN_VALUE, -1000, -1, 12, 13, 31, 32, 50, 63, 4096, Integer.MAX_VALUE};

    private final Random random;
    private final Due due;
    private final CutTrees x = new CutTrees();
    private final PlainCuts plain = new PlainCuts();
    private final int mostNodes;
    private final int mostWeight;
    private final StringBuilder said = new StringBuilder();
    private boolean hasFailed = false;

    private RandomRunsTest(Due due, long seed, int mostNodes, int mostWeight) {
        this.due = due;
        this.random = new Random(seed);
        this.mostNodes = mostNodes;
        this.mostWeight = mostWeight;
    }

    public static void main(String[] args) {
        Due due = new Due();
        for (int run = 0; run < 60; run++) {
            new RandomRunsTest(due, run, 1 + run % 7, run % 3 == 0 ? 1000 : 3).run(CALLS);
        }
        for (int run = 0; run < 6; run++) {
            new RandomRunsTest(due, 1000 + run, 8 + run % 5, run < 3 ? 1000 : 2).run(150);
        }
        for (int run = 0; run < 60; run++) {
            new RandomRunsTest(due, 2000 + run, 3 + run % 5, 5).askAll();
        }
        new RandomRunsTest(due, 3000, 10, 4).askAllParts();
        new RandomRunsTest(due, 3001, 10, 1000).askAllParts();
        due.finish("RandomRunsTest");
    }

    private void run(int calls) {
        for (int i = 0; i < calls; i++) {
            int what = random.nextInt(100);
            if (what < 8) {
                if (plain.nodes() < mostNodes || mostNodes == 12) check("node()", x.node(), plain.node());
            } else if (what < 30) {
                joinTwo();
            } else if (what < 34) {
                int arc = number(20);
                check("drop(" + arc + ")", x.drop(arc), plain.drop(arc));
            } else if (what == 34 && random.nextInt(5) == 0) {
                check("clear()", x.clear(), plain.clear());
            } else {
                ask(what % 17);
            }
        }
    }

    private void joinTwo() {
        int a = node();
        int b = node();
        int weight = random.nextInt(20) == 0 ? random.nextInt(3) * 1001 : 1 + random.nextInt(mostWeight);
        check("arc(" + a + ", " + b + ", " + weight + ")", x.arc(a, b, weight), plain.arc(a, b, weight));
    }

    private void ask(int what) {
        int a = node();
        int b = node();
        int set = number(1 << plain.nodes());
        int k = plain.nodes() > 7 && plain.nodes() < 11 ? number(3) : number(6);
        String two = "(" + a + ", " + b + ")";
        switch (what) {
            case 0 -> check("cut(" + set + ")", x.cut(set), plain.cut(set));
            case 1 -> check("pair" + two, x.pair(a, b), plain.pair(a, b));
            case 2 -> check("side" + two, x.side(a, b), plain.side(a, b));
            case 3 -> check("parent(" + a + ")", x.parent(a), plain.parent(a));
            case 4 -> check("branch(" + a + ")", x.branch(a), plain.branch(a));
            case 5 -> check("way" + two, x.way(a, b), plain.way(a, b));
            case 6 -> check("least()", x.least(), plain.least());
            case 7 -> check("counted()", x.counted(), plain.counted());
            case 8 -> check("every(" + k + ")", x.every(k), plain.every(k));
            case 9 -> check("drawn(" + set + ")", x.drawn(set), plain.drawn(set));
            case 10 -> check("parts(" + k + ")", x.parts(k), plain.parts(k));
            case 11 -> check("partOf(" + k + ", " + a + ")", x.partOf(k, a), plain.partOf(k, a));
            case 12 -> check("sparsest()", x.sparsest(), plain.sparsest());
            case 13 -> check("share(" + (k - 1) + ")", x.share(k - 1), plain.share(k - 1));
            case 14 -> check("bars" + two, x.bars(a, b), plain.bars(a, b));
            case 15 -> check("barSet" + two, x.barSet(a, b), plain.barSet(a, b));
            default -> check("without(" + set + ")", x.without(set), plain.without(set));
        }
    }

    private void makeGraph() {
        while (plain.nodes() < mostNodes) {
            check("node()", x.node(), plain.node());
        }
        int arcs = random.nextInt(3 * mostNodes);
        for (int i = 0; i < arcs; i++) {
            joinTwo();
        }
    }

    /** Asks of one GRAPH all that can be asked. */
    private void askAll() {
        makeGraph();
        int n = plain.nodes();
        for (int a = 0; a < n; a++) {
            check("parent(" + a + ")", x.parent(a), plain.parent(a));
            check("branch(" + a + ")", x.branch(a), plain.branch(a));
            for (int b = 0; b < n; b++) {
                String two = "(" + a + ", " + b + ")";
                check("pair" + two, x.pair(a, b), plain.pair(a, b));
                check("side" + two, x.side(a, b), plain.side(a, b));
                check("way" + two, x.way(a, b), plain.way(a, b));
                check("way is pair" + two, x.way(a, b), plain.pair(a, b));
                check("barSet" + two, x.barSet(a, b), plain.barSet(a, b));
            }
        }
        for (int set = 0; set <= 1 << n; set++) {
            check("cut(" + set + ")", x.cut(set), plain.cut(set));
            check("without(" + set + ")", x.without(set), plain.without(set));
            check("every(" + set + ")", x.every(set), plain.every(set));
            check("drawn(" + set + ")", x.drawn(set * 0x9E3779B9), plain.drawn(set * 0x9E3779B9));
        }
        check("sparsest()", x.sparsest(), plain.sparsest());
        check("share(0)", x.share(0), plain.share(0));
        check("share(1)", x.share(1), plain.share(1));
        askAllParts();
    }

    private void askAllParts() {
        makeGraph();
        for (int k = 0; k <= 5; k++) {
            check("parts(" + k + ")", x.parts(k), plain.parts(k));
            for (int v = 0; v < plain.nodes(); v++) {
                check("partOf(" + k + ", " + v + ")", x.partOf(k, v), plain.partOf(k, v));
            }
        }
    }

    private int node() {
        return number(plain.nodes());
    }

    /** Mostly from 0 to below the bound, now and then at the bound or far outside. */
    private int number(int bound) {
        int what = random.nextInt(30);
        if (what == 0) {
            return ODD[random.nextInt(ODD.length)];
        }
        return what == 1 || bound < 1 ? bound : random.nextInt(bound);
    }

    private void check(String call, int got, int want) {
        said.append(call).append("; ");
        // One wrong answer tells of a run; those after it would only repeat its long list of calls.
        if (!hasFailed) {
            hasFailed = got != want;
            due.is(hasFailed ? said.toString() : call, got, want);
        }
    }
}

import java.util.ArrayList;
import java.util.List;

/** Every GRAPH of few NODES and small weights, asked everything, against the document done plainly. */
public final class SmallGraphsTest {
    private static final int MOST_CALLS = 512;
    private static final int[] SEEDS = {Integer.MIN_VALUE, -1, 0, 1, 2580, 123456789, Integer.MAX_VALUE};
    private static final Due due = new Due();

    public static void main(String[] args) {
        for (int n = 0; n <= 4; n++) {
            askEveryGraph(n, 2);
        }
        askEveryGraph(5, 1);
        due.finish("SmallGraphsTest");
    }

    /** Between each two NODES there is no ARC, or one of a weight up to the greatest. */
    private static void askEveryGraph(int n, int mostWeight) {
        List<String> questions = questions(n);
        int graphs = 1;
        for (int pairs = n * (n - 1) / 2; pairs > 0; pairs--) {
            graphs *= mostWeight + 1;
        }
        for (int graph = 0; graph < graphs; graph++) {
            Given given = graph(n, mostWeight + 1, graph);
            due.holds("a run of at most 512 calls", given.calls().size() + questions.size() <= MOST_CALLS);
            ask(given, questions);
        }
    }

    /** The weights are the digits of a number, 0 for no ARC. */
    private static Given graph(int n, int base, int number) {
        Given given = Given.nodes(n);
        int left = number;
        for (int b = 1; b < n; b++) {
            for (int a = 0; a < b; a++) {
                if (left % base > 0) {
                    given = given.then("arc(" + b + ", " + a + ", " + left % base + ")");
                }
                left /= base;
            }
        }
        return given;
    }

    private static void ask(Given given, List<String> questions) {
        CutTrees x = new CutTrees();
        PlainCuts plain = new PlainCuts();
        for (String call : given.calls()) {
            due.is(given.calls() + ": " + call, Calls.answer(x, call), Calls.answer(plain, call));
        }
        for (String call : questions) {
            due.is(given.calls() + ": " + call, Calls.answer(x, call), Calls.answer(plain, call));
        }
    }

    /** All that can be asked of n NODES, and at each end the first that is refused. */
    private static List<String> questions(int n) {
        List<String> calls = new ArrayList<>(List.of("least()", "counted()", "sparsest()"));
        for (int a = -1; a <= n; a++) {
            calls.add("parent(" + a + ")");
            calls.add("branch(" + a + ")");
            for (int b = -1; b <= n; b++) {
                for (String name : new String[] {"pair", "side", "way", "bars", "barSet"}) {
                    calls.add(name + "(" + a + ", " + b + ")");
                }
            }
            for (int k = 0; k <= 5; k++) {
                calls.add("partOf(" + k + ", " + a + ")");
            }
        }
        addEach(calls, "parts", 0, 5);
        addEach(calls, "share", -1, 2);
        addEach(calls, "cut", -1, 1 << n);
        addEach(calls, "without", -1, 1 << n);
        addEach(calls, "every", -1, n == 0 ? 0 : (1 << (n - 1)) - 1);
        for (int seed : SEEDS) {
            calls.add("drawn(" + seed + ")");
        }
        return calls;
    }

    private static void addEach(List<String> calls, String name, int from, int to) {
        for (int i = from; i <= to; i++) {
            calls.add(name + "(" + i + ")");
        }
    }
}

import java.io.IOException;

/** The boundary cases that the document names in its promises, a test for each, by their numbers. */
public final class PromisesBoundariesTest {
    private static final int LOWEST = Integer.MIN_VALUE;
    private static final int HIGHEST = Integer.MAX_VALUE;
    private static final int PROMISES = 22;
    private static final Boundaries its = new Boundaries();

    /** Three NODES of another CUT each. */
    private static final Given PATH = Given.graph(3, 0, 1, 5, 1, 2, 3);
    /** The same, with answers that the object may have kept. */
    private static final Given ASKED = PATH.then("pair(0, 2)", "branch(2)", "parts(2)", "partOf(3, 2)", "sparsest()",
        "drawn(1)");
    private static final Given TWELVE = Given.graph(12, 0, 11, 1000, 3, 4, 1);

    public static void main(String[] args) throws IOException {
        its.runAll(PromisesBoundariesTest.class);
        its.checkQuotes();
        its.checkPromises(PROMISES);
        its.finish("PromisesBoundariesTest");
    }

    private static Given joined(int arcs) {
        return Given.nodes(2).times(arcs, "arc(0, 1, 1)");
    }

    /** The call has a %d in the place of a NODE; all of the rest of it is right. */
    private static void refusesOtherNodes(String call, int count) {
        Given given = count == 12 ? TWELVE : Given.nodes(count);
        for (int node : new int[] {LOWEST, -1, count, 12, 31, 32, HIGHEST}) {
            its.refused(given, call.formatted(node), -1);
        }
    }

    private static void refusesOtherSets(String name) {
        for (int count : new int[] {0, 1, 3, 12}) {
            Given given = count == 3 ? PATH : count == 12 ? TWELVE : Given.nodes(count);
            for (int set : new int[] {1 << count, (1 << count) + 1, -1, LOWEST, HIGHEST}) {
                its.refused(given, name + "(" + set + ")", -2);
            }
        }
    }

    // ---- 1 to 5: what there is

    @Says(under = "Promise 1", words = "No NODES.")
    private static void aNewObjectHasNoNodes() {
        Given none = Given.nodes(0);
        its.answers(none, "clear()", 0);
        its.answers(none, "cut(0)", 0);
        its.answers(none, "counted()", 0);
        its.answers(none, "without(0)", 0);
        its.answers(none, "node()", 0);
    }

    @Says(under = "Promise 1", words = "No NODES.")
    private static void aNewObjectRefusesTheRest() {
        Given none = Given.nodes(0);
        for (String call : new String[] {"arc(0, 1, 1)", "drop(0)", "pair(0, 1)", "side(0, 1)", "parent(0)",
            "branch(0)", "way(0, 1)", "every(0)", "partOf(1, 0)", "bars(0, 1)", "barSet(0, 1)"}) {
            its.refused(none, call, -1);
        }
        for (String call : new String[] {"cut(1)", "without(1)"}) {
            its.refused(none, call, -2);
        }
        for (String call : new String[] {"least()", "drawn(0)", "parts(1)", "sparsest()", "share(0)"}) {
            its.refused(none, call, -3);
        }
    }

    @Says(under = "Promise 1", words = "No NODES.")
    private static void objectsShareNothing() {
        CutTrees one = Boundaries.made(TWELVE);
        CutTrees other = new CutTrees();
        its.holds("the other object has no NODES", other.node() == 0 && other.least() == -3);
        its.holds("the first keeps its own", one.node() == -4 && one.cut(1) == 1000);
    }

    @Says(under = "Promise 2", words = "A NODE more: its number. -4.")
    private static void theThirteenthNodeIsRefused() {
        its.answers(Given.nodes(11), "node()", 11);
        its.refused(TWELVE, "node()", -4);
        its.answers(TWELVE.then("clear()"), "node()", 0);
        its.refused(TWELVE.then("clear()").times(12, "node()"), "node()", -4);
    }

    @Says(under = "Promise 2", words = "A NODE more")
    private static void theFirstNodesAfterQuestions() {
        its.same(ASKED.then("node()"), PATH.then("node()"));
        its.answers(Given.nodes(0).then("least()"), "node()", 0);
        its.answers(Given.nodes(1).then("least()", "node()"), "least()", 0);
        its.answers(ASKED.then("node()"), "least()", 0);
        its.answers(ASKED.then("node()"), "parts(4)", 8);
    }

    @Says(under = "Promise 3", words = "An ARC more")
    private static void theFirstArcsAfterQuestions() {
        its.same(ASKED.then("arc(0, 2, 1)"), PATH.then("arc(0, 2, 1)"));
        its.same(ASKED.then("node()", "arc(2, 3, 1)"), PATH.then("node()", "arc(2, 3, 1)"));
        its.answers(Given.nodes(2).then("pair(0, 1)", "arc(0, 1, 1)"), "pair(0, 1)", 1);
        its.answers(ASKED.then("arc(0, 2, 1)"), "branch(2)", 4);
    }

    @Says(under = "Promise 3", words = "An ARC more: its number. -1")
    private static void arcsOfNoSuchNode() {
        for (int count : new int[] {1, 3, 12}) {
            refusesOtherNodes("arc(%d, 0, 1)", count);
            refusesOtherNodes("arc(0, %d, 1)", count);
        }
        its.refused(PATH, "arc(1, 1, 1)", -1);
        its.refused(PATH, "arc(-1, -1, 1)", -1);
    }

    @Says(under = "Promise 3", words = "-2 weight")
    private static void arcsOfAWeightOutsideItsBounds() {
        its.refused(PATH, "arc(0, 2, 0)", -2);
        its.refused(PATH, "arc(0, 2, 1001)", -2);
        its.refused(PATH, "arc(0, 2, " + LOWEST + ")", -2);
        its.refused(PATH, "arc(0, 2, " + HIGHEST + ")", -2);
        its.answers(PATH, "arc(0, 2, 1)", 2);
        its.answers(PATH, "arc(0, 2, 1000)", 2);
    }

    @Says(under = "Promise 3", words = "-2 weight, -4.")
    private static void the51stArcIsRefused() {
        its.answers(joined(49), "arc(1, 0, 1)", 49);
        its.refused(joined(50), "arc(1, 0, 1)", -4);
        its.refused(joined(50).then("drop(7)"), "arc(1, 0, 1)", -4);
        its.answers(joined(50).then("arc(0, 1, 1)"), "cut(1)", 50);
    }

    @Says(under = "Promise 4", words = "An ARC is no more: how many there are.")
    private static void howManyArcsAreLeft() {
        its.answers(joined(1), "drop(0)", 0);
        its.answers(joined(50), "drop(0)", 49);
        its.answers(joined(50), "drop(49)", 49);
        its.answers(joined(3).then("drop(2)", "drop(0)"), "drop(1)", 0);
        its.answers(joined(1).then("drop(0)"), "cut(1)", 0);
    }

    @Says(under = "Promise 4", words = "An ARC is no more")
    private static void theLastArcIsNoMore() {
        its.same(ASKED.then("drop(1)"), PATH.then("drop(1)"));
        for (String arc : new String[] {"arc(0, 1, 1000)", "arc(1, 0, 1000)"}) {
            Given dropped = Given.nodes(2).then(arc, "pair(0, 1)", "drop(0)");
            its.answers(dropped, "pair(0, 1)", 0);
            its.answers(dropped, "branch(1)", 0);
            its.answers(dropped, "without(0)", 2);
            its.answers(dropped, "bars(0, 1)", 0);
            its.answers(dropped, "parts(2)", 0);
        }
    }

    @Says(under = "Promise 4", words = "how many there are. -1.")
    private static void noSuchArcToDrop() {
        its.refused(Given.nodes(2), "drop(0)", -1);
        for (int arc : new int[] {LOWEST, -1, 2, 49, 50, 51, HIGHEST}) {
            its.refused(PATH, "drop(" + arc + ")", -1);
        }
        its.refused(joined(50), "drop(50)", -1);
        its.refused(PATH.then("drop(0)"), "drop(0)", -1);
        its.refused(PATH.then("clear()"), "drop(0)", -1);
        its.refused(PATH.then("clear()", "node()", "node()"), "drop(1)", -1);
    }

    @Says(under = "Promise 5", words = "how many there were.")
    private static void howManyNodesThereWere() {
        its.answers(Given.nodes(0), "clear()", 0);
        its.answers(Given.nodes(1), "clear()", 1);
        its.answers(TWELVE, "clear()", 12);
        its.answers(TWELVE.then("node()"), "clear()", 12);
        its.answers(TWELVE.then("clear()"), "clear()", 0);
    }

    @Says(under = "Promise 5", words = "No NODES any more")
    private static void aClearedObjectIsAsANewOne() {
        its.same(TWELVE.then("clear()"), Given.nodes(0));
        its.same(joined(50).then("clear()"), Given.nodes(0));
        its.same(joined(50).then("drop(3)", "clear()", "clear()"), Given.nodes(0));
        its.same(ASKED.then("clear()"), Given.nodes(0));
        its.same(ASKED.then("clear()", "clear()").times(2, "node()"), Given.nodes(2));
        its.same(ASKED.then("clear()").times(3, "node()"), Given.nodes(3));
    }

    @Says(under = "Promise 5", words = "No NODES any more")
    private static void aClearedObjectHasRoomAgain() {
        its.answers(TWELVE.then("clear()").times(11, "node()"), "node()", 11);
        Given again = joined(50).then("clear()", "node()", "node()");
        its.answers(again, "arc(0, 1, 1)", 0);
        its.answers(again.times(49, "arc(0, 1, 1)"), "arc(0, 1, 1)", 49);
        its.refused(again.times(50, "arc(0, 1, 1)"), "arc(0, 1, 1)", -4);
    }

    // ---- 6 to 11: CUTS, pairs and THE TREE

    @Says(under = "Promise 6", words = "The CUT of a SET (0 for one that is no SIDE)")
    private static void theCutOfNoSide() {
        its.answers(Given.nodes(0), "cut(0)", 0);
        its.answers(Given.nodes(1), "cut(0)", 0);
        its.answers(Given.nodes(1), "cut(1)", 0);
        its.answers(PATH, "cut(0)", 0);
        its.answers(PATH, "cut(7)", 0);
        its.answers(TWELVE, "cut(4095)", 0);
    }

    @Says(under = "Promise 6", words = "The CUT of a SET")
    private static void theCutOfTheSmallestAndTheGreatestSide() {
        its.answers(PATH, "cut(1)", 5);
        its.answers(PATH, "cut(6)", 5);
        its.answers(PATH, "cut(4)", 3);
        its.answers(TWELVE, "cut(2048)", 1000);
        its.answers(TWELVE, "cut(4094)", 1000);
    }

    @Says(under = "Promise 6", words = "-2 it has NODES that there are not")
    private static void theCutOfNodesThatThereAreNot() {
        refusesOtherSets("cut");
    }

    @Says(under = "Promise 7", words = "THE CUT of a and b. -1.")
    private static void noSuchPair() {
        for (int count : new int[] {1, 3, 12}) {
            refusesOtherNodes("pair(%d, 0)", count);
            refusesOtherNodes("pair(0, %d)", count);
        }
        its.refused(PATH, "pair(1, 1)", -1);
        its.refused(PATH, "pair(-1, -1)", -1);
        its.answers(PATH, "pair(2, 0)", 3);
        its.answers(TWELVE, "pair(11, 0)", 1000);
    }

    @Says(under = "Promise 8", words = "THE SIDE of a against b. -1.")
    private static void noSuchPairForASide() {
        for (int count : new int[] {1, 3, 12}) {
            refusesOtherNodes("side(%d, 0)", count);
            refusesOtherNodes("side(0, %d)", count);
        }
        its.refused(PATH, "side(1, 1)", -1);
        its.refused(PATH, "side(3, 3)", -1);
        its.answers(PATH, "side(2, 0)", 4);
        its.answers(TWELVE, "side(11, 1)", 2049);
    }

    @Says(under = "Promise 9", words = "-3 for NODE 0. -1.")
    private static void noParent() {
        its.refused(Given.nodes(0), "parent(0)", -1);
        its.refused(Given.nodes(1), "parent(0)", -3);
        its.refused(PATH, "parent(0)", -3);
        its.refused(TWELVE, "parent(0)", -3);
        for (int count : new int[] {1, 3, 12}) {
            refusesOtherNodes("parent(%d)", count);
        }
        its.answers(PATH, "parent(2)", 1);
        its.answers(TWELVE, "parent(11)", 0);
    }

    @Says(under = "Promise 10", words = "-3 for NODE 0. -1.")
    private static void noBranch() {
        its.refused(Given.nodes(0), "branch(0)", -1);
        its.refused(Given.nodes(1), "branch(0)", -3);
        its.refused(PATH, "branch(0)", -3);
        its.refused(TWELVE, "branch(0)", -3);
        for (int count : new int[] {1, 3, 12}) {
            refusesOtherNodes("branch(%d)", count);
        }
        its.answers(PATH, "branch(2)", 3);
        its.answers(TWELVE, "branch(11)", 1000);
    }

    @Says(under = "Promise 11", words = "The least BRANCH on the way from a to b in THE TREE.")
    private static void theShortestAndTheLongestWay() {
        its.answers(PATH, "way(0, 1)", 5);
        its.answers(PATH, "way(1, 2)", 3);
        its.answers(PATH, "way(0, 2)", 3);
        its.answers(PATH, "way(2, 0)", 3);
        Given rising = Given.nodes(12);
        Given falling = Given.nodes(12);
        for (int v = 1; v < 12; v++) {
            rising = rising.then("arc(" + (v - 1) + ", " + v + ", " + v + ")");
            falling = falling.then("arc(" + (v - 1) + ", " + v + ", " + (12 - v) + ")");
        }
        its.answers(rising, "way(11, 0)", 1);
        its.answers(rising, "way(1, 11)", 2);
        its.answers(falling, "way(0, 11)", 1);
        its.answers(falling, "way(10, 0)", 2);
        // Up from 1 and from 2 to 0, where the ways meet.
        its.answers(Given.graph(3, 0, 1, 4, 0, 2, 6), "way(1, 2)", 4);
        its.answers(Given.graph(3, 0, 1, 6, 0, 2, 4), "way(1, 2)", 4);
    }

    @Says(under = "Promise 11", words = "in THE TREE. -1.")
    private static void noSuchWay() {
        for (int count : new int[] {1, 3, 12}) {
            refusesOtherNodes("way(%d, 0)", count);
            refusesOtherNodes("way(0, %d)", count);
        }
        its.refused(PATH, "way(0, 0)", -1);
        its.refused(PATH, "way(2, 2)", -1);
        its.refused(PATH, "way(3, 3)", -1);
    }

    // ---- 12 to 14: the least of all

    @Says(under = "Promise 12", words = "-3 there is no SIDE")
    private static void noLeast() {
        its.refused(Given.nodes(0), "least()", -3);
        its.refused(Given.nodes(1), "least()", -3);
        its.refused(TWELVE.then("clear()", "node()"), "least()", -3);
        its.answers(Given.nodes(2), "least()", 0);
        its.answers(joined(50), "least()", 50);
        its.answers(TWELVE, "least()", 0);
    }

    @Says(under = "Promise 13", words = "(0 where there is no SIDE)")
    private static void noLeastOnesToCount() {
        its.answers(Given.nodes(0), "counted()", 0);
        its.answers(Given.nodes(1), "counted()", 0);
        its.answers(Given.nodes(2), "counted()", 1);
        its.answers(PATH, "counted()", 1);
        its.answers(Given.nodes(12), "counted()", 2047);
    }

    @Says(under = "Promise 14", words = "LEAST ONE k, from 0.")
    private static void theFirstAndTheLastLeastOne() {
        its.answers(PATH, "every(0)", 4);
        its.answers(Given.nodes(3), "every(0)", 2);
        its.answers(Given.nodes(3), "every(2)", 6);
        its.answers(Given.nodes(12), "every(2046)", 4094);
    }

    @Says(under = "Promise 14", words = "-1 there is none such")
    private static void noSuchLeastOne() {
        for (int k : new int[] {LOWEST, -1, 1, 2, HIGHEST}) {
            its.refused(PATH, "every(" + k + ")", -1);
        }
        its.refused(Given.nodes(12), "every(2047)", -1);
        its.refused(Given.nodes(3), "every(3)", -1);
        its.refused(Given.nodes(0), "every(0)", -1);
        its.refused(Given.nodes(1), "every(0)", -1);
    }

    // ---- 15: what is DRAWN

    @Says(under = "Promise 15", words = "-3 there is no SIDE")
    private static void nothingIsDrawn() {
        for (int seed : new int[] {LOWEST, -1, 0, 1, HIGHEST}) {
            its.refused(Given.nodes(0), "drawn(" + seed + ")", -3);
            its.refused(Given.nodes(1), "drawn(" + seed + ")", -3);
            its.answers(Given.nodes(2), "drawn(" + seed + ")", 1);
        }
    }

    @Says(under = "Promise 15", words = "All NODES can't be drawn")
    private static void notAllNodesAreDrawn() {
        its.answers(joined(50), "drawn(5)", 1);
        its.answers(Given.graph(3, 0, 1, 1000, 0, 1, 1000), "drawn(5)", 3);
        CutTrees x = Boundaries.made(PATH);
        for (int seed = -200; seed < 200; seed++) {
            int drawn = x.drawn(seed);
            its.holds("of three two GROUPS are left: " + drawn, drawn == 1 || drawn == 3);
        }
    }

    @Says(under = "Promise 15", words = "without ARCS more than two GROUPS may be left")
    private static void moreThanTwoGroupsAreLeft() {
        its.answers(Given.nodes(12), "drawn(0)", 1);
        its.answers(Given.graph(12, 0, 11, 1), "drawn(0)", 2049);
        its.answers(Given.graph(12, 10, 11, 1), "drawn(0)", 1);
        its.answers(Given.graph(6, 0, 5, 1, 1, 2, 1, 3, 4, 1), "drawn(0)", 33);
    }

    @Says(under = "Promise 15", words = "What is DRAWN by a seed.")
    private static void drawingLeavesNothingBehind() {
        its.same(PATH.then("drawn(1)", "drawn(-1)"), PATH);
        its.answers(Given.complete(6, 1), "drawn(3)", 61);
        its.answers(Given.complete(6, 1).then("drawn(3)", "drawn(5)"), "drawn(3)", 61);
    }

    // ---- 16 and 17: THE PARTS

    @Says(under = "Promise 16", words = "-2 k is not 1 .. 4")
    private static void noSuchCountOfParts() {
        for (int k : new int[] {LOWEST, -1, 0, 5, 6, HIGHEST}) {
            its.refused(Given.complete(5, 1), "parts(" + k + ")", -2);
            its.refused(Given.nodes(0), "parts(" + k + ")", -2);
            its.refused(Given.nodes(12), "parts(" + k + ")", -2);
        }
        its.answers(Given.complete(5, 1), "parts(1)", 0);
        its.answers(Given.complete(5, 1), "parts(4)", 9);
    }

    @Says(under = "Promise 16", words = "-4 there are more than 10 NODES")
    private static void partsOfTooManyNodes() {
        for (int k = 1; k <= 4; k++) {
            its.answers(Given.nodes(10), "parts(" + k + ")", 0);
            its.refused(Given.nodes(11), "parts(" + k + ")", -4);
            its.refused(TWELVE, "parts(" + k + ")", -4);
        }
        its.answers(Given.complete(10, 2), "parts(4)", 48);
        its.refused(Given.complete(10, 2).then("parts(4)", "node()"), "parts(4)", -4);
        its.answers(Given.nodes(12).then("clear()", "node()"), "parts(1)", 0);
    }

    @Says(under = "Promise 16", words = "-3 there are fewer than k")
    private static void partsOfTooFewNodes() {
        for (int k = 1; k <= 4; k++) {
            its.refused(Given.nodes(k - 1), "parts(" + k + ")", -3);
            its.answers(Given.nodes(k), "parts(" + k + ")", 0);
        }
        its.refused(PATH, "parts(4)", -3);
        its.answers(PATH, "parts(3)", 8);
    }

    @Says(under = "Promise 17", words = "A NODE's number in THE PARTS for k. -1")
    private static void noSuchNodeInParts() {
        for (int count : new int[] {1, 3, 12}) {
            refusesOtherNodes("partOf(1, %d)", count);
        }
        its.refused(Given.nodes(0), "partOf(1, 0)", -1);
        its.refused(Given.nodes(10), "partOf(4, 10)", -1);
        its.answers(Given.nodes(10), "partOf(4, 9)", 3);
        its.answers(Given.nodes(10), "partOf(4, 0)", 0);
    }

    @Says(under = "Promise 17", words = "-1, -2, -4, -3 likewise")
    private static void noSuchCountOfPartsForANode() {
        for (int k : new int[] {LOWEST, -1, 0, 5, HIGHEST}) {
            its.refused(PATH, "partOf(" + k + ", 2)", -2);
            its.refused(Given.nodes(11), "partOf(" + k + ", 10)", -2);
        }
        its.answers(PATH, "partOf(1, 2)", 0);
    }

    @Says(under = "Promise 17", words = "-2, -4, -3 likewise")
    private static void tooManyNodesForTheirNumbers() {
        for (int k = 1; k <= 4; k++) {
            its.refused(Given.nodes(11), "partOf(" + k + ", 0)", -4);
            its.refused(Given.nodes(11), "partOf(" + k + ", 10)", -4);
            its.refused(TWELVE, "partOf(" + k + ", 11)", -4);
            its.answers(Given.nodes(10), "partOf(" + k + ", 9)", k - 1);
        }
    }

    @Says(under = "Promise 17", words = "-4, -3 likewise")
    private static void tooFewNodesForTheirNumbers() {
        for (int k = 2; k <= 4; k++) {
            its.refused(Given.nodes(k - 1), "partOf(" + k + ", 0)", -3);
            its.answers(Given.nodes(k), "partOf(" + k + ", " + (k - 1) + ")", k - 1);
        }
        its.refused(PATH, "partOf(4, 2)", -3);
        its.answers(PATH, "partOf(3, 2)", 2);
    }

    // ---- 18 and 19: THE SPARSEST

    @Says(under = "Promise 18", words = "-3 there is no SIDE")
    private static void noSparsest() {
        its.refused(Given.nodes(0), "sparsest()", -3);
        its.refused(Given.nodes(1), "sparsest()", -3);
        its.refused(TWELVE.then("sparsest()", "clear()", "node()"), "sparsest()", -3);
        its.answers(Given.nodes(2), "sparsest()", 2);
        its.answers(Given.complete(10, 1000), "sparsest()", 2);
    }

    @Says(under = "Promise 19", words = "in lowest terms")
    private static void lowestTerms() {
        // 6 by 4.
        Given two = Given.graph(4, 0, 1, 8, 2, 3, 8, 1, 2, 6);
        its.answers(two, "share(0)", 3);
        its.answers(two, "share(1)", 2);
        // 1 by 2, which is so already.
        Given one = Given.graph(3, 0, 1, 1, 1, 2, 1);
        its.answers(one, "share(0)", 1);
        its.answers(one, "share(1)", 2);
        // 36 by 36: all is divided.
        Given whole = Given.nodes(12);
        for (int i = 0; i < 6; i++) {
            for (int rest = 1; rest < 6 - i; rest++) {
                whole = whole.then("arc(" + i + ", " + (i + rest) + ", 1000)");
                whole = whole.then("arc(" + (i + 6) + ", " + (i + 6 + rest) + ", 1000)");
            }
        }
        whole = whole.then("arc(5, 6, 36)");
        its.answers(whole, "sparsest()", 4032);
        its.answers(whole, "share(0)", 1);
        its.answers(whole, "share(1)", 1);
    }

    @Says(under = "Promise 19", words = "in lowest terms")
    private static void lowestTermsOfNothing() {
        for (int count = 2; count <= 12; count++) {
            its.answers(Given.nodes(count), "share(0)", 0);
            its.answers(Given.nodes(count), "share(1)", 1);
        }
    }

    @Says(under = "Promise 19", words = "-2 another part")
    private static void noSuchPartOfTheShare() {
        for (int part : new int[] {LOWEST, -1, 2, HIGHEST}) {
            its.refused(PATH, "share(" + part + ")", -2);
            its.refused(Given.nodes(0), "share(" + part + ")", -2);
        }
        its.answers(PATH, "share(0)", 3);
        its.answers(PATH, "share(1)", 2);
    }

    @Says(under = "Promise 19", words = "-2 another part, -3.")
    private static void noShare() {
        for (int part = 0; part < 2; part++) {
            its.refused(Given.nodes(0), "share(" + part + ")", -3);
            its.refused(Given.nodes(1), "share(" + part + ")", -3);
        }
    }

    // ---- 20 to 22: THE BARS, what is left

    @Says(under = "Promise 20", words = "How many NODES THE BARS of a and b have. -1")
    private static void noSuchNodesToBar() {
        for (int count : new int[] {1, 3, 12}) {
            refusesOtherNodes("bars(%d, 0)", count);
            refusesOtherNodes("bars(0, %d)", count);
        }
        its.refused(PATH, "bars(1, 1)", -1);
        its.refused(PATH, "bars(3, 3)", -1);
        its.answers(PATH, "bars(0, 2)", 1);
        its.answers(TWELVE, "bars(10, 11)", 0);
    }

    @Says(under = "Promise 20", words = "-3 an ARC joins them")
    private static void joinedNodesAreNotBarred() {
        its.refused(PATH, "bars(0, 1)", -3);
        its.refused(PATH, "bars(2, 1)", -3);
        its.refused(TWELVE, "bars(11, 0)", -3);
        its.refused(joined(50), "bars(0, 1)", -3);
        its.answers(joined(1).then("drop(0)"), "bars(0, 1)", 0);
        its.refused(joined(2).then("drop(0)"), "bars(0, 1)", -3);
    }

    @Says(under = "Promise 21", words = "THE BARS of a and b. -1")
    private static void noSuchNodesForABarSet() {
        for (int count : new int[] {1, 3, 12}) {
            refusesOtherNodes("barSet(%d, 0)", count);
            refusesOtherNodes("barSet(0, %d)", count);
        }
        its.refused(PATH, "barSet(1, 1)", -1);
        its.refused(PATH, "barSet(3, 3)", -1);
        its.answers(PATH, "barSet(0, 2)", 2);
        its.answers(TWELVE, "barSet(10, 11)", 0);
    }

    @Says(under = "Promise 21", words = "-1, -3.")
    private static void joinedNodesHaveNoBarSet() {
        its.refused(PATH, "barSet(0, 1)", -3);
        its.refused(PATH, "barSet(2, 1)", -3);
        its.refused(TWELVE, "barSet(11, 0)", -3);
        its.answers(joined(1).then("drop(0)"), "barSet(0, 1)", 0);
        its.refused(joined(2).then("drop(1)"), "barSet(1, 0)", -3);
    }

    @Says(under = "Promise 22", words = "(the SET's NODES gone)")
    private static void withoutNoneAndWithoutAll() {
        its.answers(Given.nodes(0), "without(0)", 0);
        its.answers(Given.nodes(1), "without(0)", 1);
        its.answers(Given.nodes(1), "without(1)", 0);
        its.answers(PATH, "without(0)", 1);
        its.answers(PATH, "without(2)", 2);
        its.answers(PATH, "without(6)", 1);
        its.answers(PATH, "without(7)", 0);
        its.answers(Given.nodes(12), "without(0)", 12);
        its.answers(TWELVE, "without(0)", 10);
        its.answers(TWELVE, "without(2048)", 10);
        its.answers(TWELVE, "without(4095)", 0);
        its.answers(TWELVE.then("without(4095)"), "without(0)", 10);
    }

    @Says(under = "Promise 22", words = "-2 it has NODES that there are not")
    private static void withoutNodesThatThereAreNot() {
        refusesOtherSets("without");
    }
}

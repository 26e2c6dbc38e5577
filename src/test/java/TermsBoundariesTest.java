import java.io.IOException;

/** The boundary cases that the document names under "What it is" and "Terms", a test for each. */
public final class TermsBoundariesTest {
    private static final int LOWEST = Integer.MIN_VALUE;
    private static final int HIGHEST = Integer.MAX_VALUE;
    private static final Boundaries its = new Boundaries();

    /** ARCS 0-1, 1-2 and 0-2 of weight 1, by which one drawing tells its t: 3, 1 or 5. */
    private static final Given TRIANGLE = Given.graph(3, 0, 1, 1, 1, 2, 1, 0, 2, 1);

    public static void main(String[] args) throws IOException {
        its.runAll(TermsBoundariesTest.class);
        its.checkQuotes();
        its.checkTerms();
        its.finish("TermsBoundariesTest");
    }

    private static Given joined(int arcs) {
        return Given.nodes(2).times(arcs, "arc(0, 1, 1)");
    }

    // ---- how long an object is used

    @Says(under = "What it is", words = "An object is used for at most 512 calls after it has been made")
    private static void the512thCallIsAnswered() {
        Given asked = Given.graph(3, 0, 1, 1000, 1, 2, 7).times(506, "side(2, 0)");
        its.answers(asked, "pair(0, 1)", 1000);
        Given changed = Given.nodes(0);
        for (int i = 0; i < 170; i++) {
            changed = changed.then("node()", "clear()", "least()");
        }
        its.answers(changed.then("node()"), "node()", 1);
    }

    @Says(under = "What it is", words = "An object is used for at most 512 calls after it has been made")
    private static void the512thCallIsRefused() {
        Given full = Given.nodes(12).times(499, "node()");
        its.answers(full, "node()", -4);
    }

    // ---- NODES, ARCS, weights

    @Says(under = "Terms", words = "A GRAPH has NODES 0, 1, .. (12 at most)")
    private static void nodesAreTwelveAtMost() {
        for (int count = 0; count < 12; count++) {
            its.answers(Given.nodes(count), "node()", count);
        }
        its.refused(Given.nodes(12), "node()", -4);
        its.refused(Given.complete(10, 1000).then("node()", "node()"), "node()", -4);
    }

    @Says(under = "Terms", words = "ARCS 0, 1, .. (50 at most")
    private static void arcsAreFiftyAtMost() {
        for (int count = 0; count < 50; count++) {
            its.answers(joined(count), "arc(1, 0, 1000)", count);
        }
        its.refused(joined(50), "arc(0, 1, 1)", -4);
        its.refused(Given.complete(10, 3).times(5, "arc(9, 0, 2)"), "arc(4, 5, 1000)", -4);
    }

    @Says(under = "Terms", words = "those that were dropped counted")
    private static void droppedArcsTakeRoom() {
        its.answers(joined(49).then("drop(0)"), "arc(0, 1, 1)", 49);
        its.refused(joined(50).then("drop(0)"), "arc(0, 1, 1)", -4);
        its.refused(joined(50).then("drop(49)"), "arc(0, 1, 1)", -4);
        Given allDropped = joined(50);
        for (int i = 0; i < 50; i++) {
            allDropped = allDropped.then("drop(" + i + ")");
        }
        its.refused(allDropped, "arc(0, 1, 1)", -4);
    }

    @Says(under = "Terms", words = "a number does not come again")
    private static void numbersDoNotComeAgain() {
        its.answers(joined(1).then("drop(0)"), "arc(0, 1, 1)", 1);
        its.answers(joined(3).then("drop(2)"), "arc(0, 1, 1)", 3);
        its.answers(joined(3).then("drop(0)", "drop(1)", "drop(2)"), "arc(0, 1, 1)", 3);
        its.refused(joined(1).then("drop(0)", "arc(0, 1, 7)"), "drop(0)", -1);
        its.answers(joined(1).then("drop(0)", "arc(0, 1, 7)"), "drop(1)", 0);
    }

    @Says(under = "Terms", words = "each between two other NODES")
    private static void arcsHaveTwoEnds() {
        its.refused(Given.nodes(1), "arc(0, 0, 1)", -1);
        its.refused(TRIANGLE, "arc(0, 0, 1)", -1);
        its.refused(TRIANGLE, "arc(2, 2, 1000)", -1);
        its.refused(Given.nodes(12), "arc(11, 11, 1)", -1);
        its.answers(Given.nodes(12), "arc(11, 10, 1)", 0);
    }

    @Says(under = "Terms", words = "with a weight from 1 to 1000")
    private static void weightsHaveBounds() {
        its.answers(Given.graph(2, 0, 1, 1), "cut(1)", 1);
        its.answers(Given.graph(2, 0, 1, 1000), "cut(1)", 1000);
        its.answers(Given.nodes(2), "arc(0, 1, 1)", 0);
        its.answers(Given.nodes(2), "arc(0, 1, 1000)", 0);
        for (int weight : new int[] {0, -1, -1000, LOWEST, 1001, 1 << 16, HIGHEST}) {
            its.refused(TRIANGLE, "arc(0, 1, " + weight + ")", -2);
        }
    }

    @Says(under = "Terms", words = "several may join the same two")
    private static void severalArcsJoinTwo() {
        Given three = Given.graph(2, 0, 1, 1, 0, 1, 1, 1, 0, 1000);
        its.answers(three, "cut(1)", 1002);
        its.answers(three.then("drop(0)"), "cut(1)", 1001);
        its.answers(three.then("drop(2)"), "cut(2)", 2);
        its.answers(three.then("drop(0)", "drop(1)"), "pair(0, 1)", 1000);
    }

    @Says(under = "Terms", words = "several may join the same two")
    private static void fiftyOfTheGreatestWeightJoinTwo() {
        Given heaviest = Given.nodes(2).times(50, "arc(1, 0, 1000)");
        its.answers(heaviest, "cut(2)", 50000);
        its.answers(heaviest, "pair(1, 0)", 50000);
        its.answers(heaviest, "branch(1)", 50000);
        its.answers(heaviest, "way(0, 1)", 50000);
        its.answers(heaviest, "least()", 50000);
        its.answers(heaviest, "parts(2)", 50000);
        its.answers(heaviest, "share(0)", 50000);
        its.answers(heaviest, "drawn(1)", 1);
        its.refused(heaviest, "bars(0, 1)", -3);
    }

    // ---- SETS, SIDES, CUTS

    @Says(under = "Terms", words = "2^v for NODE v")
    private static void lowestAndHighestBit() {
        Given ends = Given.graph(12, 0, 1, 4, 11, 10, 9);
        its.answers(ends, "cut(1)", 4);
        its.answers(ends, "cut(2048)", 9);
        its.answers(ends, "without(2048)", 10);
        its.answers(Given.nodes(12), "side(0, 11)", 1);
        its.answers(Given.nodes(12), "side(11, 0)", 2048);
        its.refused(ends, "cut(4096)", -2);
    }

    @Says(under = "Terms", words = "A SIDE is a SET that is neither empty")
    private static void theEmptySetIsNoSide() {
        its.answers(TRIANGLE, "cut(0)", 0);
        its.answers(TRIANGLE, "least()", 2);
        its.answers(TRIANGLE, "every(0)", 2);
        its.refused(Given.nodes(0), "least()", -3);
    }

    @Says(under = "Terms", words = "nor has all NODES")
    private static void allNodesAreNoSide() {
        its.answers(TRIANGLE, "cut(7)", 0);
        its.answers(TRIANGLE, "every(2)", 6);
        its.refused(TRIANGLE, "every(3)", -1);
        its.refused(Given.nodes(1), "least()", -3);
        its.answers(Given.nodes(2), "least()", 0);
    }

    @Says(under = "Terms", words = "the ARCS that have one NODE in it and one not")
    private static void arcsInsideOrOutsideAreNotCut() {
        Given square = Given.graph(4, 0, 1, 1, 1, 2, 10, 2, 3, 100, 3, 0, 1000);
        its.answers(square, "cut(3)", 1010);
        its.answers(square, "cut(12)", 1010);
        its.answers(square, "cut(5)", 1111);
        its.answers(square.then("drop(3)"), "cut(5)", 111);
    }

    // ---- THE CUT, THE SIDE, THE TREE

    @Says(under = "Terms", words = "THE CUT of a and b (two other NODES)")
    private static void aNodeIsNotCutFromItself() {
        for (String call : new String[] {"pair", "side", "way", "bars", "barSet"}) {
            its.refused(Given.nodes(1), call + "(0, 0)", -1);
            its.refused(TRIANGLE, call + "(0, 0)", -1);
            its.refused(TRIANGLE, call + "(2, 2)", -1);
            its.refused(Given.nodes(12), call + "(11, 11)", -1);
        }
    }

    @Says(under = "Terms", words = "the least CUT of a SIDE that has a and not b")
    private static void theOnlySidesOfTwoNodes() {
        Given two = Given.graph(2, 0, 1, 1000);
        its.answers(two, "pair(0, 1)", 1000);
        its.answers(two, "pair(1, 0)", 1000);
        its.answers(two, "side(0, 1)", 1);
        its.answers(two, "side(1, 0)", 2);
        its.answers(Given.nodes(2), "pair(0, 1)", 0);
    }

    @Says(under = "Terms", words = "there is one that all others have within them: THE SIDE of a against b")
    private static void theSideOfSeveralOfTheSameCut() {
        Given path = Given.graph(4, 0, 1, 2, 1, 2, 2, 2, 3, 2);
        its.answers(path, "side(0, 3)", 1);
        its.answers(path, "side(3, 0)", 8);
        its.answers(path, "side(1, 3)", 3);
        its.answers(path, "side(2, 0)", 12);
        its.answers(Given.nodes(12), "side(5, 6)", 32);
        // {0, 1, 2, 3} has the CUT 0 too, and {1} a greater one.
        its.answers(Given.graph(5, 1, 2, 5, 0, 3, 5), "side(1, 4)", 6);
    }

    @Says(under = "Terms", words = "there is one that all others have within them: THE SIDE of a against b")
    private static void theSideMayHaveAllButOne() {
        Given star = Given.nodes(12);
        for (int v = 1; v < 11; v++) {
            star = star.then("arc(0, " + v + ", 2)");
        }
        star = star.then("arc(11, 10, 1)");
        its.answers(star, "side(0, 11)", 2047);
        its.answers(star, "side(11, 0)", 2048);
        its.answers(Given.graph(3, 0, 1, 1, 1, 2, 5), "side(2, 0)", 6);
    }

    @Says(under = "Terms", words = "each NODE but 0 has a PARENT, at first 0")
    private static void parentsStayZero() {
        for (int v = 1; v < 12; v++) {
            its.answers(Given.nodes(12), "parent(" + v + ")", 0);
            its.answers(Given.nodes(12), "branch(" + v + ")", 0);
        }
        its.answers(Given.graph(2, 0, 1, 3), "parent(1)", 0);
        its.refused(TRIANGLE, "parent(0)", -3);
    }

    @Says(under = "Terms", words = "each j above i whose PARENT is p")
    private static void lowerNodesKeepTheirParent() {
        // THE SIDE of 2 against 0 has 1, which is below 2.
        Given path = Given.graph(3, 0, 2, 5, 2, 1, 3);
        its.answers(path, "side(2, 0)", 6);
        its.answers(path, "parent(1)", 0);
        its.answers(path, "branch(1)", 3);
        its.answers(path, "parent(2)", 0);
        its.answers(path, "branch(2)", 5);
    }

    @Says(under = "Terms", words = "each j above i whose PARENT is p")
    private static void nodesOfAnotherParentKeepIt() {
        // 3 has the PARENT 1 when THE SIDE of 2 against 0, which has 3, is looked at.
        Given path = Given.graph(4, 0, 2, 5, 2, 1, 3, 1, 3, 4);
        its.answers(path, "side(2, 0)", 14);
        its.answers(path, "parent(3)", 1);
        its.answers(path, "branch(3)", 4);
        its.answers(path, "parent(2)", 0);
    }

    @Says(under = "Terms", words = "which is in THE SIDE of i against p, gets the PARENT i")
    private static void nodesInTheSideGetTheParent() {
        Given star = Given.graph(4, 3, 0, 1, 3, 1, 2, 3, 2, 3);
        its.answers(star, "side(1, 0)", 14);
        its.answers(star, "parent(2)", 1);
        its.answers(star, "side(2, 1)", 13);
        its.answers(star, "parent(3)", 2);
        its.answers(star, "branch(3)", 3);
        Given chain = Given.nodes(12);
        for (int v = 1; v < 12; v++) {
            chain = chain.then("arc(" + (v - 1) + ", " + v + ", " + v + ")");
        }
        its.answers(chain, "parent(11)", 10);
        its.answers(chain, "branch(11)", 11);
        its.answers(chain, "way(11, 0)", 1);
    }

    // ---- THE LEAST, LEAST ONES

    @Says(under = "Terms", words = "THE LEAST is the least CUT of all SIDES")
    private static void theLeastMayLeaveNodeZeroAlone() {
        Given alone = Given.graph(3, 0, 1, 1, 1, 2, 9);
        its.answers(alone, "least()", 1);
        its.answers(alone, "counted()", 1);
        its.answers(alone, "every(0)", 6);
    }

    @Says(under = "Terms", words = "LEAST ONES are the SIDES without NODE 0 that have it, as their bits rise")
    private static void leastOnesRise() {
        int[] ones = {2, 4, 6};
        for (int k = 0; k < 3; k++) {
            its.answers(TRIANGLE, "every(" + k + ")", ones[k]);
        }
        its.refused(TRIANGLE, "every(3)", -1);
        its.answers(Given.nodes(12), "counted()", 2047);
        its.answers(Given.nodes(12), "every(0)", 2);
        its.answers(Given.nodes(12), "every(1)", 4);
        its.answers(Given.nodes(12), "every(2046)", 4094);
    }

    // ---- DRAWING

    @Says(under = "Terms", words = "As long as there are more than two GROUPS")
    private static void twoGroupsAreNotJoined() {
        its.answers(Given.graph(2, 0, 1, 1000), "drawn(0)", 1);
        its.answers(Given.graph(2, 0, 1, 1000), "drawn(" + HIGHEST + ")", 1);
        its.answers(Given.nodes(2), "drawn(0)", 1);
        its.answers(Given.graph(3, 1, 2, 5), "drawn(0)", 1);
        its.answers(Given.graph(3, 0, 2, 5), "drawn(0)", 5);
    }

    @Says(under = "Terms", words = "and ARCS between them")
    private static void drawingEndsWithoutArcsBetween() {
        its.answers(Given.nodes(3), "drawn(0)", 1);
        its.answers(Given.nodes(12), "drawn(-1)", 1);
        its.answers(Given.graph(4, 0, 1, 5), "drawn(0)", 3);
        its.answers(Given.graph(4, 0, 1, 5, 1, 0, 5), "drawn(0)", 3);
        its.answers(Given.graph(4, 0, 1, 5, 2, 3, 5).then("node()"), "drawn(3)", 3);
        its.answers(Given.graph(3, 0, 1, 5).then("drop(0)"), "drawn(0)", 1);
    }

    @Says(under = "Terms", words = "z becomes z * 1664525 + 1013904223 (32 bits that wrap)")
    private static void theSeedWraps() {
        // 5308378723 wraps to 1013411427, half of it is 1 modulo 3; that of the first would be 0.
        its.answers(TRIANGLE, "drawn(2580)", 1);
        its.answers(TRIANGLE, "drawn(0)", 3);
        its.answers(TRIANGLE, "drawn(-1)", 1);
        its.answers(TRIANGLE, "drawn(" + LOWEST + ")", 1);
        its.answers(TRIANGLE, "drawn(" + HIGHEST + ")", 5);
    }

    @Says(under = "Terms", words = "t is z, moved right by 1, zeros coming in")
    private static void zerosComeIn() {
        // z is 2179071723, above 2^31: half of it is 1 modulo 3, and below 0 with ones coming in.
        its.answers(TRIANGLE, "drawn(700)", 1);
    }

    @Says(under = "Terms", words = "modulo the sum of the weights of all ARCS between GROUPS")
    private static void arcsWithinAGroupDoNotCount() {
        Given heavy = Given.graph(4, 0, 1, 1000, 0, 1, 1000, 1, 2, 1, 2, 3, 1, 3, 0, 1);
        its.answers(heavy, "drawn(0)", 3);
        its.answers(heavy, "drawn(2)", 11);
        its.answers(heavy, "drawn(4)", 7);
    }

    @Says(under = "Terms", words = "modulo the sum of the weights of all ARCS between GROUPS")
    private static void theFirstAndTheLastArcAreDrawn() {
        // By the seed 0, t is 506952111 before the modulus: 0 of 3, 3 of 4.
        its.answers(Given.graph(3, 1, 2, 1, 0, 1, 1, 0, 2, 1), "drawn(0)", 1);
        its.answers(Given.graph(3, 1, 2, 2, 0, 1, 1, 0, 2, 1), "drawn(0)", 5);
        its.answers(Given.graph(3, 0, 2, 1), "drawn(0)", 5);
    }

    @Says(under = "Terms", words = "of these, by their numbers, that one is drawn")
    private static void droppedArcsAreNotDrawn() {
        Given dropped = Given.graph(3, 0, 2, 1000, 1, 2, 1, 0, 1, 1, 0, 2, 1).then("drop(0)");
        its.answers(dropped, "drawn(0)", 1);
        its.answers(dropped, "drawn(-1)", 3);
        its.answers(dropped, "drawn(" + HIGHEST + ")", 5);
    }

    @Says(under = "Terms", words = "with which the sum of the weights so far comes to be above t")
    private static void theSumMustBeAboveT() {
        // By the seed 1, t is 374 of 1000.
        its.answers(Given.graph(3, 1, 2, 374, 0, 1, 1, 0, 2, 625), "drawn(1)", 3);
        its.answers(Given.graph(3, 1, 2, 375, 0, 1, 1, 0, 2, 624), "drawn(1)", 1);
        its.answers(Given.graph(3, 1, 2, 373, 0, 1, 1, 0, 2, 626), "drawn(1)", 5);
    }

    @Says(under = "Terms", words = "What is DRAWN is the GROUP of NODE 0")
    private static void theGroupOfNodeZeroIsDrawn() {
        Given complete = Given.complete(10, 1000);
        CutTrees x = Boundaries.made(complete);
        for (int seed = 0; seed < 400; seed++) {
            int drawn = x.drawn(seed * 0x9E3779B9);
            its.holds("drawn is a SIDE with NODE 0: " + drawn, (drawn & 1) == 1 && drawn > 0 && drawn < 1023);
        }
    }

    // ---- PARTS

    @Says(under = "Terms", words = "each NODE has a number 0 .. k - 1, each of which is there")
    private static void everyNumberIsThere() {
        int[][] numbers = {{0, 0, 0, 0}, {0, 0, 0, 1}, {0, 0, 1, 2}, {0, 1, 2, 3}};
        for (int k = 1; k <= 4; k++) {
            its.answers(Given.nodes(4), "parts(" + k + ")", 0);
            for (int v = 0; v < 4; v++) {
                its.answers(Given.nodes(4), "partOf(" + k + ", " + v + ")", numbers[k - 1][v]);
            }
        }
    }

    @Says(under = "Terms", words = "their cost is the sum of the weights of ARCS between NODES of other numbers")
    private static void costOfNoPartAndOfAllApart() {
        its.answers(Given.complete(4, 1000), "parts(1)", 0);
        its.answers(Given.complete(4, 1000), "parts(4)", 6000);
        Given heaviest = Given.nodes(4);
        for (int i = 0; i < 50; i++) {
            heaviest = heaviest.then("arc(" + i % 4 + ", " + (i + 1) % 4 + ", 1000)");
        }
        its.answers(heaviest, "parts(4)", 50000);
        its.answers(heaviest, "parts(1)", 0);
    }

    @Says(under = "Terms", words = "the one that gives the least number to NODE 0, then to 1, and so on")
    private static void theLeastNumbersOfTheSameCost() {
        int[] ofRing = {0, 0, 0, 1};
        Given ring = Given.graph(4, 0, 1, 1, 1, 2, 1, 2, 3, 1, 3, 0, 1);
        for (int v = 0; v < 4; v++) {
            its.answers(ring, "partOf(2, " + v + ")", ofRing[v]);
        }
        // {2, 3}, {1} and {0} cost 2; {2} and {3} alone cost more.
        int[] ofUneven = {0, 0, 1, 1};
        Given uneven = Given.graph(4, 0, 1, 1, 1, 2, 1, 2, 3, 5, 3, 0, 1);
        for (int v = 0; v < 4; v++) {
            its.answers(uneven, "partOf(2, " + v + ")", ofUneven[v]);
        }
        its.answers(Given.complete(10, 1), "partOf(4, 6)", 0);
        its.answers(Given.complete(10, 1), "partOf(4, 9)", 3);
    }

    // ---- THE SPARSEST

    @Says(under = "Terms", words = "THE SPARSEST is the SIDE without NODE 0")
    private static void theSparsestIsWithoutNodeZero() {
        its.answers(Given.graph(3, 0, 1, 1, 1, 2, 9), "sparsest()", 6);
        its.answers(Given.graph(2, 0, 1, 1000), "sparsest()", 2);
        its.answers(Given.graph(12, 1, 2, 1), "sparsest()", 6);
    }

    @Says(under = "Terms", words = "its CUT, by the product of how many NODES it has and has not, is least")
    private static void theProductCounts() {
        Given ring = Given.graph(6, 0, 1, 1, 1, 2, 1, 2, 3, 1, 3, 4, 1, 4, 5, 1, 5, 0, 1);
        its.answers(ring, "sparsest()", 14);
        its.answers(ring, "share(0)", 2);
        its.answers(ring, "share(1)", 9);
    }

    @Says(under = "Terms", words = "of these the one with the least bits")
    private static void theLeastBitsOfTheSameShare() {
        its.answers(Given.nodes(12), "sparsest()", 2);
        its.answers(Given.complete(4, 1), "sparsest()", 2);
        // {1, 2} has 4 by 4, {3} and all three have 3 by 3; {1} and {2} have 4 by 3.
        Given mixed = Given.complete(4, 1).then("arc(1, 2, 1)");
        its.answers(mixed, "sparsest()", 6);
    }

    // ---- BARS

    @Says(under = "Terms", words = "BARS of a and b, if no ARC joins them")
    private static void joinedNodesHaveNoBars() {
        Given joined = Given.graph(3, 0, 1, 1, 1, 0, 1);
        its.refused(joined, "barSet(0, 1)", -3);
        its.refused(joined.then("drop(0)"), "barSet(0, 1)", -3);
        its.refused(joined.then("drop(1)"), "bars(1, 0)", -3);
        its.answers(joined.then("drop(0)", "drop(1)"), "barSet(0, 1)", 0);
        its.answers(joined, "bars(0, 2)", 0);
    }

    @Says(under = "Terms", words = "are a SET of other NODES without which no way leads from a to b")
    private static void noneOrAllOtherNodesAreBars() {
        its.answers(Given.nodes(2), "bars(0, 1)", 0);
        its.answers(Given.nodes(2), "barSet(1, 0)", 0);
        its.answers(Given.graph(4, 0, 1, 1, 2, 3, 1), "barSet(0, 3)", 0);
        Given all = Given.nodes(12);
        for (int v = 1; v < 11; v++) {
            all = all.then("arc(0, " + v + ", 1)", "arc(" + v + ", 11, 1)");
        }
        its.answers(all, "bars(0, 11)", 10);
        its.answers(all, "barSet(11, 0)", 2046);
    }

    @Says(under = "Terms", words = "THE BARS have the fewest NODES, of these the least bits")
    private static void theFewestThenTheLeastBits() {
        Given narrow = Given.graph(5, 0, 1, 1, 0, 2, 1, 1, 3, 1, 2, 3, 1, 3, 4, 1);
        its.answers(narrow, "barSet(0, 4)", 8);
        its.answers(narrow, "bars(0, 4)", 1);
        Given path = Given.graph(4, 0, 1, 1, 1, 2, 1, 2, 3, 1);
        its.answers(path, "barSet(0, 3)", 2);
        its.answers(path, "barSet(3, 0)", 2);
    }

    // ---- REFUSALS

    @Says(under = "Terms", words = "REFUSALS change nothing and answer, the first that fits")
    private static void noNodeAheadOfWeightAheadOfRoom() {
        Given full = joined(50);
        its.refused(full, "arc(0, 0, 0)", -1);
        its.refused(full, "arc(0, 2, 1)", -1);
        its.refused(full, "arc(2, 0, 1001)", -1);
        its.refused(full, "arc(0, 1, 0)", -2);
        its.refused(full, "arc(0, 1, 1001)", -2);
        its.refused(full, "arc(0, 1, 1)", -4);
        its.refused(joined(1), "arc(1, 1, 0)", -1);
    }

    @Says(under = "Terms", words = "REFUSALS change nothing and answer, the first that fits")
    private static void noNodeAheadOfNone() {
        its.refused(Given.nodes(0), "parent(0)", -1);
        its.refused(Given.nodes(0), "branch(0)", -1);
        its.refused(Given.nodes(0), "every(0)", -1);
        its.refused(joined(1), "bars(0, 2)", -1);
        its.refused(joined(1), "barSet(1, 1)", -1);
    }

    @Says(under = "Terms", words = "REFUSALS change nothing and answer, the first that fits")
    private static void theOrderInParts() {
        its.refused(Given.nodes(0), "parts(0)", -2);
        its.refused(Given.nodes(0), "parts(5)", -2);
        its.refused(Given.nodes(12), "parts(5)", -2);
        its.refused(Given.nodes(12), "partOf(5, 12)", -1);
        its.refused(Given.nodes(12), "partOf(5, 11)", -2);
        its.refused(Given.nodes(12), "partOf(4, 11)", -4);
        its.refused(Given.nodes(1), "partOf(2, 1)", -1);
        its.refused(Given.nodes(1), "partOf(5, 0)", -2);
        its.refused(Given.nodes(1), "partOf(2, 0)", -3);
    }

    @Says(under = "Terms", words = "REFUSALS change nothing and answer, the first that fits")
    private static void theOrderInShare() {
        its.refused(Given.nodes(0), "share(2)", -2);
        its.refused(Given.nodes(1), "share(-1)", -2);
        its.refused(Given.nodes(1), "share(1)", -3);
    }

    @Says(under = "Terms", words = "-1 there is no such NODE, ARC, place (or both are the same)")
    private static void noSuchNodeArcOrPlace() {
        its.refused(TRIANGLE, "pair(0, 3)", -1);
        its.refused(TRIANGLE, "drop(3)", -1);
        its.refused(TRIANGLE, "every(3)", -1);
        its.refused(TRIANGLE, "side(1, 1)", -1);
    }

    @Says(under = "Terms", words = "-2 outside its bounds, -3 there is none, -4 there is no room")
    private static void outsideNoneAndNoRoom() {
        its.refused(TRIANGLE, "without(8)", -2);
        its.refused(Given.nodes(1), "sparsest()", -3);
        its.refused(Given.nodes(11), "parts(1)", -4);
    }
}

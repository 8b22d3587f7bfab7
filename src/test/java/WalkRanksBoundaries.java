import java.lang.reflect.Method;
import java.util.ArrayList;
import java.util.Comparator;
import java.util.List;
import java.util.function.Consumer;

/**
 * A test of its own for each boundary case that the document names. The name of a test tells the promise
 * and the case; a comment ahead of a group of tests tells the words of the document that they hold it to.
 */
public final class WalkRanksBoundaries {
    private static final int LEAST = Integer.MIN_VALUE;
    private static final int MOST = Integer.MAX_VALUE;
    private static final int PROMISES = 20;
    private static final int LAST_CALL = 512;

    /** Never nodes of five; as numbers of bits 32 and 33 would wrap round to 0 and 1. */
    private static final int[] NO_NODES = {LEAST, -32, -1, 5, 31, 32, 33, MOST};
    private static final int[] NO_PARTS = {LEAST, -1, 2, 3, MOST};

    private static String name = "";

    public static void main(String[] args) throws ReflectiveOperationException {
        List<Method> tests = new ArrayList<>();
        for (Method method : WalkRanksBoundaries.class.getDeclaredMethods()) {
            if (method.getName().startsWith("promise")) {
                tests.add(method);
            }
        }
        tests.sort(Comparator.comparing(Method::getName));
        for (Method test : tests) {
            name = test.getName();
            test.invoke(null);
        }
        name = "";
        eachPromiseHasATest(tests);
        System.out.println(tests.size() + " boundary cases");
        Due.finish();
    }

    private static void eachPromiseHasATest(List<Method> tests) {
        for (int promise = 1; promise <= PROMISES; promise++) {
            String start = String.format("promise%02d_", promise);
            if (tests.stream().noneMatch(test -> test.getName().startsWith(start))) {
                Due.say("no boundary case of promise " + promise);
            }
        }
    }

    private static void due(String call, long got, long want) {
        Due.answer(name, call, got, want);
    }

    private static void dueRow(WalkRanks x, int u, int... want) {
        int sum = 0;
        for (int v = 0; v < want.length; v++) {
            due("row(" + u + ", " + v + ")", x.row(u, v), want[v]);
            sum += want[v];
        }
        due("total(" + u + ")", x.total(u), sum);
    }

    private static void dueSets(WalkRanks x, int number, int... setOf) {
        due("closed()", x.closed(), number);
        for (int v = 0; v < setOf.length; v++) {
            due("closedOf(" + v + ")", x.closedOf(v), setOf[v]);
        }
    }

    private static void dueRank(WalkRanks x, int v, String want) {
        Due.fraction(name, "rank(" + v + ")", x.rank(v, 0), x.rank(v, 1), want);
    }

    private static void duePlaces(WalkRanks x, int... want) {
        for (int k = 0; k < want.length; k++) {
            due("place(" + k + ")", x.place(k), want[k]);
        }
    }

    private static void dueReach(WalkRanks x, int u, int v, String want) {
        Due.fraction(name, "reach(" + u + ", " + v + ")", x.reach(u, v, 0), x.reach(u, v, 1), want);
    }

    private static void dueHit(WalkRanks x, int u, int v, String want) {
        Due.fraction(name, "hit(" + u + ", " + v + ")", x.hit(u, v, 0), x.hit(u, v, 1), want);
    }

    private static void dueBack(WalkRanks x, int v, String want) {
        Due.fraction(name, "back(" + v + ")", x.back(v, 0), x.back(v, 1), want);
    }

    private static void dueEnd(WalkRanks x, int u, int set, String want) {
        Due.fraction(name, "end(" + u + ", " + set + ")", x.end(u, set, 0), x.end(u, set, 1), want);
    }

    private static void dueAfter(WalkRanks x, int u, int v, int k, String want) {
        String call = "after(" + u + ", " + v + ", " + k + ")";
        Due.fraction(name, call, x.after(u, v, k, 0), x.after(u, v, k, 1), want);
    }

    /** All that has been set, as far as calls can see it. */
    private static String seen(WalkRanks x) {
        StringBuilder text = new StringBuilder();
        for (int u = 0; x.total(u) >= 0; u++) {
            for (int v = 0; x.total(v) >= 0; v++) {
                text.append(x.walks(u, v, 1)).append(':').append(x.row(u, v)).append(' ');
            }
            text.append("of ").append(x.total(u)).append(", in ").append(x.closedOf(u)).append('\n');
        }
        return text.toString();
    }

    private static void dueSame(WalkRanks x, Consumer<WalkRanks> refusedCalls) {
        String before = seen(x);
        refusedCalls.accept(x);
        String now = seen(x);
        if (!now.equals(before)) {
            Due.say(name + ": what was refused changed\n" + before + "to\n" + now);
        }
    }

    /** Nothing in it is as it was at first, so that any change shows. */
    private static WalkRanks mixed(int count) {
        WalkRanks x = Graphs.withNodes(count);
        for (int u = 0; u < count; u++) {
            x.jump(u, u % 2 == 0 ? 2 : 0);
            x.weight(u, (u + 1) % count, 1);
            x.weight(u, u, 2);
        }
        x.keep(2, 3);
        return x;
    }

    /** Node 0 may stay or go on to 1, which is never left; a walk does not come to 0 from elsewhere. */
    private static WalkRanks leaving() {
        return Graphs.byWeights(2, 0, 0, 1, 0, 1, 1, 1, 1, 1);
    }

    /** Weights of the nodes one row behind the other, then jumps. */
    private static WalkRanks written(int[] weights, int... jumps) {
        WalkRanks x = Graphs.withNodes(jumps.length);
        for (int u = 0; u < jumps.length; u++) {
            x.jump(u, jumps[u]);
            for (int v = 0; v < jumps.length; v++) {
                x.weight(u, v, weights[u * jumps.length + v]);
            }
        }
        return x;
    }

    // No NODES, KEEP 1 of 1.

    private static void promise01_newObject_hasNoNodes() {
        WalkRanks x = new WalkRanks();
        due("total(0)", x.total(0), -1);
        due("clear()", x.clear(), 0);
    }

    private static void promise01_newObject_hasNoClosedSets() {
        due("closed()", new WalkRanks().closed(), 0);
    }

    private static void promise01_newObject_refusesEachCallThatNamesANode() {
        WalkRanks x = new WalkRanks();
        due("weight(0, 0, 0)", x.weight(0, 0, 0), -1);
        due("jump(0, 0)", x.jump(0, 0), -1);
        due("row(0, 0)", x.row(0, 0), -1);
        due("total(0)", x.total(0), -1);
        due("closedOf(0)", x.closedOf(0), -1);
        due("period(0)", x.period(0), -1);
        due("rank(0, 0)", x.rank(0, 0), -1);
        due("place(0)", x.place(0), -1);
        due("reach(0, 0, 0)", x.reach(0, 0, 0), -1);
        due("hit(0, 0, 0)", x.hit(0, 0, 0), -1);
        due("back(0, 0)", x.back(0, 0), -1);
        due("end(0, 0, 0)", x.end(0, 0, 0), -1);
        due("after(0, 0, 0, 0)", x.after(0, 0, 0, 0), -1);
        due("walks(0, 0, 0)", x.walks(0, 0, 0), -1);
        due("drawn(0, 0, 0)", x.drawn(0, 0, 0), -1);
    }

    private static void promise01_newObject_keepIs1Of1() {
        WalkRanks x = Graphs.withNodes(2);
        x.weight(0, 1, 1);
        dueRow(x, 0, 0, 1);
    }

    private static void promise01_newObject_sharesNothingWithAnother() {
        WalkRanks other = mixed(5);
        WalkRanks x = new WalkRanks();
        due("clear()", x.clear(), 0);
        due("node()", x.node(), 0);
        due("the other's node()", other.node(), -4);
        due("weight(0, 0, 1)", x.weight(0, 0, 1), 0);
        due("the other's weight(0, 0, 2)", other.weight(0, 0, 2), 2);
    }

    // An object is used for at most 512 calls after it has been made.

    private static void promise01_newObject_the512thCallIsAnsweredAsTheFirst() {
        WalkRanks x = new WalkRanks();
        int calls = 0;
        while (calls < LAST_CALL - 5) {
            due("node()", x.node(), calls < 5 ? calls : -4);
            calls++;
        }
        due("call 508, weight(4, 0, 2)", x.weight(4, 0, 2), 0);
        due("call 509, keep(1, 2)", x.keep(1, 2), 1);
        due("call 510, jump(0, 0)", x.jump(0, 0), 1);
        due("call 511, total(4)", x.total(4), 8);
        due("call 512, row(4, 0)", x.row(4, 0), 4);
    }

    private static void promise01_newObject_callsBehindThe512thEnd() {
        WalkRanks x = mixed(5);
        for (int i = 0; i < 10 * LAST_CALL; i++) {
            x.drawn(i % 5, i, 200);
            x.weight(i % 5, i % 3, i % 3);
            x.back(i % 5, 0);
        }
    }

    // NODES are numbered 0, 1, .. (5 at most). A NODE more: its number. -4.

    private static void promise02_node_theFirstIs0() {
        due("node()", new WalkRanks().node(), 0);
    }

    private static void promise02_node_theFifthIs4AndTheLast() {
        WalkRanks x = Graphs.withNodes(4);
        due("total(4)", x.total(4), -1);
        due("node()", x.node(), 4);
        due("total(4)", x.total(4), 5);
        due("total(5)", x.total(5), -1);
    }

    private static void promise02_node_theSixthIsRefused() {
        WalkRanks x = Graphs.withNodes(5);
        due("node()", x.node(), -4);
        due("node() once more", x.node(), -4);
    }

    private static void promise02_node_refusedChangesNothing() {
        WalkRanks x = mixed(5);
        dueSame(x, WalkRanks::node);
        due("clear()", x.clear(), 5);
    }

    private static void promise02_node_thereIsRoomAgainBehindClear() {
        WalkRanks x = Graphs.withNodes(5);
        x.node();
        x.clear();
        for (int v = 0; v < 5; v++) {
            due("node()", x.node(), v);
        }
        due("node()", x.node(), -4);
    }

    private static void promise02_node_leavesTheOthersAsTheyWere() {
        WalkRanks x = mixed(4);
        x.node();
        due("weight(3, 0, 0)", x.weight(3, 0, 0), 1);
        due("weight(3, 3, 0)", x.weight(3, 3, 0), 2);
        due("jump(3, 1)", x.jump(3, 1), 0);
        due("jump(2, 1)", x.jump(2, 1), 2);
    }

    // a WEIGHT, 0 to 2 (0 at first), of each NODE a JUMP, 0 to 2 (1 at first)

    private static void promise02_node_weightsAre0AtFirst() {
        WalkRanks x = Graphs.withNodes(5);
        for (int u = 0; u < 5; u++) {
            for (int v = 0; v < 5; v++) {
                due("weight(" + u + ", " + v + ", 1)", x.weight(u, v, 1), 0);
            }
        }
    }

    private static void promise02_node_jumpIs1AtFirst() {
        WalkRanks x = Graphs.withNodes(5);
        for (int v = 0; v < 5; v++) {
            due("jump(" + v + ", 0)", x.jump(v, 0), 1);
        }
    }

    private static void promise02_node_itsJumpCountsAtOnce() {
        WalkRanks x = Graphs.withNodes(1);
        dueRow(x, 0, 1);
        x.node();
        dueRow(x, 0, 1, 1);
    }

    // A WEIGHT: what it was. -1, -2. Of two NODES (which may be the same) there is a WEIGHT, 0 to 2.

    private static void promise03_weight_theLeastIs0() {
        WalkRanks x = Graphs.withNodes(2);
        x.weight(0, 1, 1);
        due("weight(0, 1, 0)", x.weight(0, 1, 0), 1);
        due("weight(0, 1, 0)", x.weight(0, 1, 0), 0);
    }

    private static void promise03_weight_theGreatestIs2() {
        WalkRanks x = Graphs.withNodes(2);
        due("weight(0, 1, 2)", x.weight(0, 1, 2), 0);
        due("weight(0, 1, 2)", x.weight(0, 1, 2), 2);
    }

    private static void promise03_weight_below0IsRefused() {
        WalkRanks x = Graphs.withNodes(2);
        due("weight(0, 1, -1)", x.weight(0, 1, -1), -2);
        due("weight(0, 1, LEAST)", x.weight(0, 1, LEAST), -2);
    }

    private static void promise03_weight_above2IsRefused() {
        WalkRanks x = Graphs.withNodes(2);
        due("weight(0, 1, 3)", x.weight(0, 1, 3), -2);
        due("weight(0, 1, MOST)", x.weight(0, 1, MOST), -2);
    }

    private static void promise03_weight_fromANodeToItself() {
        WalkRanks x = Graphs.withNodes(2);
        due("weight(1, 1, 2)", x.weight(1, 1, 2), 0);
        due("weight(1, 1, 0)", x.weight(1, 1, 0), 2);
    }

    private static void promise03_weight_toAndFroAreTwo() {
        WalkRanks x = Graphs.withNodes(2);
        x.weight(0, 1, 2);
        due("weight(1, 0, 1)", x.weight(1, 0, 1), 0);
        due("weight(0, 1, 0)", x.weight(0, 1, 0), 2);
    }

    private static void promise03_weight_ofTheLastNodeOfAll() {
        WalkRanks x = Graphs.withNodes(5);
        due("weight(4, 4, 1)", x.weight(4, 4, 1), 0);
        due("weight(4, 4, 2)", x.weight(4, 4, 2), 1);
    }

    private static void promise03_weight_fromNoNode() {
        WalkRanks x = Graphs.withNodes(5);
        for (int u : NO_NODES) {
            due("weight(" + u + ", 0, 1)", x.weight(u, 0, 1), -1);
        }
    }

    private static void promise03_weight_toNoNode() {
        WalkRanks x = Graphs.withNodes(5);
        for (int v : NO_NODES) {
            due("weight(0, " + v + ", 1)", x.weight(0, v, 1), -1);
        }
    }

    private static void promise03_weight_nodeThatIsNotYet() {
        WalkRanks x = Graphs.withNodes(2);
        due("weight(2, 0, 1)", x.weight(2, 0, 1), -1);
        due("weight(0, 2, 1)", x.weight(0, 2, 1), -1);
    }

    private static void promise03_weight_noNodeIsToldAheadOfBounds() {
        WalkRanks x = Graphs.withNodes(2);
        due("weight(2, 0, 3)", x.weight(2, 0, 3), -1);
        due("weight(0, -1, -1)", x.weight(0, -1, -1), -1);
    }

    private static void promise03_weight_refusedChangesNothing() {
        WalkRanks x = mixed(4);
        dueSame(x, y -> {
            y.weight(0, 1, 3);
            y.weight(0, 1, -1);
            y.weight(4, 0, 1);
            y.weight(0, 4, 1);
            y.weight(-1, -1, 1);
        });
        x.node();
        due("weight(4, 0, 1) behind node()", x.weight(4, 0, 1), 0);
        due("weight(0, 4, 1) behind node()", x.weight(0, 4, 1), 0);
    }

    // A JUMP: what it was. -1, -2. Of each NODE a JUMP, 0 to 2.

    private static void promise04_jump_theLeastIs0() {
        WalkRanks x = Graphs.withNodes(2);
        due("jump(1, 0)", x.jump(1, 0), 1);
        due("jump(1, 0)", x.jump(1, 0), 0);
    }

    private static void promise04_jump_theGreatestIs2() {
        WalkRanks x = Graphs.withNodes(2);
        due("jump(1, 2)", x.jump(1, 2), 1);
        due("jump(1, 2)", x.jump(1, 2), 2);
    }

    private static void promise04_jump_below0IsRefused() {
        WalkRanks x = Graphs.withNodes(2);
        due("jump(1, -1)", x.jump(1, -1), -2);
        due("jump(1, LEAST)", x.jump(1, LEAST), -2);
    }

    private static void promise04_jump_above2IsRefused() {
        WalkRanks x = Graphs.withNodes(2);
        due("jump(1, 3)", x.jump(1, 3), -2);
        due("jump(1, MOST)", x.jump(1, MOST), -2);
    }

    private static void promise04_jump_ofTheLastNodeOfAll() {
        WalkRanks x = Graphs.withNodes(5);
        due("jump(4, 2)", x.jump(4, 2), 1);
        due("jump(4, 0)", x.jump(4, 0), 2);
    }

    private static void promise04_jump_ofNoNode() {
        WalkRanks x = Graphs.withNodes(5);
        for (int v : NO_NODES) {
            due("jump(" + v + ", 1)", x.jump(v, 1), -1);
        }
    }

    private static void promise04_jump_nodeThatIsNotYet() {
        due("jump(2, 1)", Graphs.withNodes(2).jump(2, 1), -1);
    }

    private static void promise04_jump_noNodeIsToldAheadOfBounds() {
        WalkRanks x = Graphs.withNodes(2);
        due("jump(2, 3)", x.jump(2, 3), -1);
        due("jump(-1, -1)", x.jump(-1, -1), -1);
    }

    private static void promise04_jump_refusedChangesNothing() {
        WalkRanks x = mixed(4);
        dueSame(x, y -> {
            y.jump(0, 3);
            y.jump(0, -1);
            y.jump(4, 0);
            y.jump(-1, 0);
        });
        x.node();
        due("jump(4, 0) behind node()", x.jump(4, 0), 1);
    }

    // KEEP: 1. -2. KEEP is x of y (1 of 1 at first; y 1 to 4, x 0 to y).

    private static void promise05_keep_eachXOfEachYIsTaken() {
        WalkRanks x = new WalkRanks();
        for (int below = 1; below <= 4; below++) {
            for (int above = 0; above <= below; above++) {
                due("keep(" + above + ", " + below + ")", x.keep(above, below), 1);
            }
        }
    }

    private static void promise05_keep_theLeastYIs1() {
        WalkRanks x = new WalkRanks();
        due("keep(0, 1)", x.keep(0, 1), 1);
        due("keep(0, 0)", x.keep(0, 0), -2);
        due("keep(0, -1)", x.keep(0, -1), -2);
        due("keep(-1, -1)", x.keep(-1, -1), -2);
        due("keep(0, LEAST)", x.keep(0, LEAST), -2);
    }

    private static void promise05_keep_theGreatestYIs4() {
        WalkRanks x = new WalkRanks();
        due("keep(4, 4)", x.keep(4, 4), 1);
        due("keep(4, 5)", x.keep(4, 5), -2);
        due("keep(5, 5)", x.keep(5, 5), -2);
        due("keep(0, MOST)", x.keep(0, MOST), -2);
        due("keep(MOST, MOST)", x.keep(MOST, MOST), -2);
    }

    private static void promise05_keep_theLeastXIs0() {
        WalkRanks x = new WalkRanks();
        for (int below = 1; below <= 4; below++) {
            due("keep(0, " + below + ")", x.keep(0, below), 1);
            due("keep(-1, " + below + ")", x.keep(-1, below), -2);
            due("keep(LEAST, " + below + ")", x.keep(LEAST, below), -2);
        }
    }

    private static void promise05_keep_theGreatestXIsY() {
        WalkRanks x = new WalkRanks();
        for (int below = 1; below <= 4; below++) {
            due("keep(" + below + ", " + below + ")", x.keep(below, below), 1);
            due("keep(" + (below + 1) + ", " + below + ")", x.keep(below + 1, below), -2);
            due("keep(MOST, " + below + ")", x.keep(MOST, below), -2);
        }
    }

    private static void promise05_keep_isTakenWithoutNodes() {
        WalkRanks x = new WalkRanks();
        due("keep(0, 1)", x.keep(0, 1), 1);
        x.node();
        x.node();
        x.weight(0, 1, 1);
        dueRow(x, 0, 1, 1);
    }

    private static void promise05_keep_refusedChangesNothing() {
        dueSame(mixed(5), y -> {
            y.keep(0, 0);
            y.keep(1, 5);
            y.keep(-1, 2);
            y.keep(4, 3);
        });
    }

    // No NODES any more (KEEP stays): how many there were.

    private static void promise06_clear_ofNoneIs0() {
        WalkRanks x = new WalkRanks();
        due("clear()", x.clear(), 0);
        due("node()", x.node(), 0);
    }

    private static void promise06_clear_ofOneIs1() {
        due("clear()", Graphs.withNodes(1).clear(), 1);
    }

    private static void promise06_clear_ofAllIs5() {
        due("clear()", Graphs.withNodes(5).clear(), 5);
    }

    private static void promise06_clear_refusedNodesDoNotCount() {
        WalkRanks x = Graphs.withNodes(5);
        x.node();
        due("clear()", x.clear(), 5);
    }

    private static void promise06_clear_secondTimeIs0() {
        WalkRanks x = mixed(5);
        x.clear();
        due("clear()", x.clear(), 0);
    }

    private static void promise06_clear_noNodeIsLeft() {
        WalkRanks x = mixed(5);
        x.clear();
        for (int v = 0; v < 5; v++) {
            due("total(" + v + ")", x.total(v), -1);
            due("closedOf(" + v + ")", x.closedOf(v), -1);
            due("place(" + v + ")", x.place(v), -1);
            due("jump(" + v + ", 1)", x.jump(v, 1), -1);
        }
    }

    private static void promise06_clear_noSetIsLeft() {
        WalkRanks x = Graphs.byWeights(5);
        x.clear();
        due("closed()", x.closed(), 0);
        due("period(0)", x.period(0), -1);
    }

    private static void promise06_clear_weightsAndJumpsAreGone() {
        WalkRanks x = Graphs.full();
        x.clear();
        for (int u = 0; u < 5; u++) {
            x.node();
            due("jump(" + u + ", 1)", x.jump(u, 1), 1);
            for (int v = 0; v <= u; v++) {
                due("weight(" + u + ", " + v + ", 0)", x.weight(u, v, 0), 0);
                due("weight(" + v + ", " + u + ", 0)", x.weight(v, u, 0), 0);
            }
        }
    }

    private static void promise06_clear_keepStays() {
        WalkRanks x = mixed(2);
        x.keep(1, 4);
        x.clear();
        x.clear();
        x.node();
        x.node();
        x.weight(0, 1, 1);
        dueRow(x, 0, 3, 5);
    }

    // n(u, v). -1.

    private static void promise07_row_ofNoNode() {
        WalkRanks x = Graphs.withNodes(5);
        for (int v : NO_NODES) {
            due("row(" + v + ", 0)", x.row(v, 0), -1);
            due("row(0, " + v + ")", x.row(0, v), -1);
        }
    }

    private static void promise07_row_nodeThatIsNotYet() {
        WalkRanks x = Graphs.withNodes(2);
        due("row(1, 2)", x.row(1, 2), -1);
        due("row(2, 1)", x.row(2, 1), -1);
        due("row(2, 2)", x.row(2, 2), -1);
        due("row(1, 1)", x.row(1, 1), 1);
    }

    private static void promise07_row_refusedChangesNothing() {
        dueSame(mixed(4), y -> {
            y.row(4, 0);
            y.row(0, -1);
        });
    }

    // where OUT of u and J are above 0: x of y times WEIGHT of u, v by OUT, and y - x of y times JUMP of v by J

    private static void promise07_row_outAndJ1() {
        WalkRanks x = Graphs.byWeights(2, 0, 0, 1);
        x.jump(1, 1);
        x.keep(1, 3);
        dueRow(x, 0, 1, 2);
    }

    private static void promise07_row_outAndJ10() {
        WalkRanks x = Graphs.full();
        x.keep(1, 2);
        for (int u = 0; u < 5; u++) {
            dueRow(x, u, 1, 1, 1, 1, 1);
        }
    }

    private static void promise07_row_keep0LeavesJumpsAlone() {
        WalkRanks x = Graphs.withNodes(3);
        x.weight(0, 0, 2);
        x.jump(1, 0);
        x.keep(0, 4);
        dueRow(x, 0, 1, 0, 1);
    }

    private static void promise07_row_keepYOfYLeavesWeightsAlone() {
        WalkRanks x = Graphs.withNodes(3);
        x.weight(0, 0, 2);
        x.weight(0, 2, 1);
        x.keep(4, 4);
        dueRow(x, 0, 2, 0, 1);
    }

    private static void promise07_row_keepNeedsNotBeInLowestTerms() {
        WalkRanks x = Graphs.withNodes(2);
        x.weight(0, 1, 1);
        x.keep(2, 4);
        dueRow(x, 0, 1, 3);
    }

    private static void promise07_row_weightToItselfCountsInOut() {
        WalkRanks x = Graphs.withNodes(2);
        x.weight(0, 0, 2);
        x.weight(0, 1, 1);
        dueRow(x, 0, 2, 1);
    }

    private static void promise07_row_weightsOfOthersDoNotCountInOut() {
        WalkRanks x = Graphs.withNodes(2);
        x.weight(1, 0, 2);
        dueRow(x, 0, 1, 1);
    }

    // where J is 0 (OUT above 0): WEIGHT by OUT

    private static void promise07_row_j0LeavesWeightsAlone() {
        WalkRanks x = Graphs.byWeights(2, 0, 0, 2, 0, 1, 1);
        x.keep(1, 2);
        dueRow(x, 0, 2, 1);
    }

    private static void promise07_row_j0WithKeep0() {
        WalkRanks x = Graphs.byWeights(2, 0, 0, 2, 0, 1, 1);
        x.keep(0, 1);
        dueRow(x, 0, 2, 1);
    }

    // where OUT is 0: JUMP of v by J

    private static void promise07_row_out0LeavesJumpsAlone() {
        WalkRanks x = Graphs.withNodes(2);
        x.jump(1, 2);
        x.keep(1, 2);
        dueRow(x, 0, 1, 2);
    }

    private static void promise07_row_out0WithKeepYOfY() {
        WalkRanks x = Graphs.withNodes(2);
        x.jump(1, 2);
        dueRow(x, 0, 1, 2);
    }

    private static void promise07_row_out0Again() {
        WalkRanks x = Graphs.withNodes(2);
        x.weight(0, 0, 2);
        x.weight(0, 0, 0);
        dueRow(x, 0, 1, 1);
    }

    // where both are 0: 1 for v = u, 0 for others

    private static void promise07_row_both0Stays() {
        WalkRanks x = Graphs.byWeights(5);
        dueRow(x, 0, 1, 0, 0, 0, 0);
        dueRow(x, 4, 0, 0, 0, 0, 1);
    }

    private static void promise07_row_both0WithKeep0() {
        WalkRanks x = Graphs.byWeights(2);
        x.keep(0, 4);
        dueRow(x, 1, 0, 1);
    }

    private static void promise07_row_both0OfOneNodeOnly() {
        WalkRanks x = Graphs.byWeights(2, 0, 1, 1);
        dueRow(x, 0, 0, 1);
        dueRow(x, 1, 0, 1);
    }

    // T(u). -1. whole numbers n(u, v) with the sum T(u) .. T(u) the least such

    private static void promise08_total_ofNoNode() {
        WalkRanks x = Graphs.withNodes(5);
        for (int u : NO_NODES) {
            due("total(" + u + ")", x.total(u), -1);
        }
    }

    private static void promise08_total_nodeThatIsNotYet() {
        WalkRanks x = Graphs.withNodes(2);
        due("total(1)", x.total(1), 2);
        due("total(2)", x.total(2), -1);
    }

    private static void promise08_total_refusedChangesNothing() {
        dueSame(mixed(4), y -> {
            y.total(4);
            y.total(-1);
        });
    }

    private static void promise08_total_theLeastIs1() {
        WalkRanks x = Graphs.byWeights(3, 0, 2, 2);
        due("total(0)", x.total(0), 1);
        due("total(1)", x.total(1), 1);
    }

    private static void promise08_total_isLowered() {
        WalkRanks x = Graphs.byWeights(3, 0, 1, 2, 0, 2, 2);
        dueRow(x, 0, 0, 1, 1);
    }

    private static void promise08_total_isLoweredWhereWeightsAndJumpsMeet() {
        // 1/4 and 1/4 each; with jumps 1 and 2: 1/4 and 1/6, 1/4 and 1/3
        WalkRanks x = Graphs.withNodes(2);
        x.weight(0, 0, 1);
        x.weight(0, 1, 1);
        x.keep(1, 2);
        dueRow(x, 0, 1, 1);
        x.jump(1, 2);
        dueRow(x, 0, 5, 7);
    }

    private static void promise08_total_theGreatestIs288() {
        // 1/4 of w by 9 and 3/4 of j by 8: 8 w + 27 j of 288
        WalkRanks x = written(new int[] {2, 2, 2, 2, 1, 0, 0, 0, 0, 0, 0, 0, 0, 0, 0, 0, 0, 0, 0, 0, 0, 0, 0, 0, 0},
                2, 2, 2, 1, 1);
        x.keep(1, 4);
        dueRow(x, 0, 70, 70, 70, 43, 35);
    }

    // How many CLOSED sets there are. from each of them STEPS lead to each other one, and to none outside

    private static void promise09_closed_withoutNodesIs0() {
        due("closed()", new WalkRanks().closed(), 0);
    }

    private static void promise09_closed_oneNodeIsASet() {
        due("closed() by a jump", Graphs.withNodes(1).closed(), 1);
        due("closed() without any", Graphs.byWeights(1).closed(), 1);
    }

    private static void promise09_closed_theMostAre5() {
        due("closed()", Graphs.byWeights(5).closed(), 5);
    }

    private static void promise09_closed_allNodesAreOneSet() {
        due("closed()", Graphs.round(5).closed(), 1);
        due("closed()", Graphs.full().closed(), 1);
    }

    private static void promise09_closed_stepsOfChance0DoNotLead() {
        WalkRanks x = Graphs.withNodes(2);
        x.weight(0, 0, 1);
        x.weight(1, 1, 1);
        due("closed(), KEEP 1 of 1: no jumps", x.closed(), 2);
        x.keep(3, 4);
        due("closed(), KEEP 3 of 4", x.closed(), 1);
        x.keep(4, 4);
        due("closed(), KEEP 4 of 4", x.closed(), 2);
        x.keep(0, 4);
        due("closed(), KEEP 0 of 4", x.closed(), 1);
    }

    private static void promise09_closed_aStepOutsideOpensASet() {
        WalkRanks x = Graphs.byWeights(4, 0, 1, 1, 1, 0, 1, 2, 3, 1, 3, 2, 1);
        due("closed()", x.closed(), 2);
        x.weight(1, 2, 1);
        due("closed() with a way from 1 to 2", x.closed(), 1);
        x.weight(3, 0, 1);
        due("closed() with a way back", x.closed(), 1);
        dueSets(x, 1, 0, 0, 0, 0);
    }

    // The CLOSED set that a NODE is in. -1, -3 it is in none. They are numbered from 0 on by their least NODES.

    private static void promise10_closedOf_ofNoNode() {
        WalkRanks x = Graphs.withNodes(5);
        for (int v : NO_NODES) {
            due("closedOf(" + v + ")", x.closedOf(v), -1);
        }
    }

    private static void promise10_closedOf_nodeThatIsNotYet() {
        WalkRanks x = Graphs.byWeights(2);
        due("closedOf(1)", x.closedOf(1), 1);
        due("closedOf(2)", x.closedOf(2), -1);
    }

    private static void promise10_closedOf_refusedChangesNothing() {
        dueSame(Graphs.byWeights(4, 0, 1, 1), y -> {
            y.closedOf(4);
            y.closedOf(-1);
            y.closedOf(0);
        });
    }

    private static void promise10_closedOf_numbersRunFrom0To4() {
        dueSets(Graphs.byWeights(5), 5, 0, 1, 2, 3, 4);
    }

    private static void promise10_closedOf_byLeastNodes() {
        dueSets(Graphs.byWeights(5, 0, 4, 1, 4, 0, 1, 1, 3, 1, 3, 1, 1), 3, 0, 1, 2, 1, 0);
    }

    private static void promise10_closedOf_inNone() {
        dueSets(Graphs.byWeights(3, 0, 1, 1, 1, 0, 1, 1, 2, 1), 1, -3, -3, 0);
    }

    private static void promise10_closedOf_nodesInNoneTakeNoNumber() {
        dueSets(Graphs.byWeights(5, 0, 3, 1, 2, 1, 1), 3, -3, 0, -3, 1, 2);
    }

    private static void promise10_closedOf_aNodeThatAllJumpTo() {
        WalkRanks x = Graphs.byWeights(5);
        x.jump(4, 1);
        dueSets(x, 1, -3, -3, -3, -3, 0);
    }

    // The PERIOD of a CLOSED set. -1. the greatest number that divides all lengths of ways .. back to itself

    private static void promise11_period_ofNoSet() {
        WalkRanks x = Graphs.byWeights(5);
        for (int set : NO_NODES) {
            due("period(" + set + ")", x.period(set), -1);
        }
    }

    private static void promise11_period_refusedChangesNothing() {
        dueSame(mixed(4), y -> {
            y.period(1);
            y.period(-1);
        });
    }

    private static void promise11_period_setsAreFewerThanNodes() {
        WalkRanks x = Graphs.round(5);
        due("period(0)", x.period(0), 5);
        due("period(1)", x.period(1), -1);
        due("period(4)", x.period(4), -1);
    }

    private static void promise11_period_ofTheLastSet() {
        WalkRanks x = Graphs.byWeights(5, 3, 4, 1, 4, 3, 1);
        due("period(2)", x.period(2), 1);
        due("period(3)", x.period(3), 2);
        due("period(4)", x.period(4), -1);
    }

    private static void promise11_period_theLeastIs1() {
        due("period(0) where a walk stays", Graphs.byWeights(1).period(0), 1);
        due("period(0) of all to all", Graphs.withNodes(5).period(0), 1);
    }

    private static void promise11_period_theGreatestIs5() {
        for (int count = 1; count <= 5; count++) {
            due("period(0) of a round of " + count, Graphs.round(count).period(0), count);
        }
    }

    private static void promise11_period_lengthsOfWhichNoneIsThePeriod() {
        // ways of 2 and 3 steps, then of 4 and 5
        WalkRanks x = Graphs.byWeights(3, 0, 1, 1, 1, 0, 1, 1, 2, 1, 2, 0, 1);
        due("period(0) of 2 and 3", x.period(0), 1);
        WalkRanks y = Graphs.round(5);
        y.weight(3, 0, 1);
        due("period(0) of 5 and 4", y.period(0), 1);
    }

    private static void promise11_period_roundsFarFromTheLeastNode() {
        // from 0 on to 4 and back, a walk may stay at 4 only
        WalkRanks x = Graphs.lineWithTurns();
        due("period(0)", x.period(0), 2);
        x.weight(4, 4, 1);
        due("period(0) where 4 may stay", x.period(0), 1);
    }

    private static void promise11_period_stepsIntoTheSetDoNotCount() {
        WalkRanks x = Graphs.byWeights(3, 0, 0, 1, 0, 1, 1, 1, 2, 1, 2, 1, 1);
        due("period(0)", x.period(0), 2);
    }

    // A NODE's RANK. -1, -2, -3 there is not one CLOSED set. (0 outside it) .. they sum to 1

    private static void promise12_rank_ofNoNode() {
        WalkRanks x = Graphs.full();
        for (int v : NO_NODES) {
            due("rank(" + v + ", 0)", x.rank(v, 0), -1);
        }
    }

    private static void promise12_rank_ofNoPart() {
        WalkRanks x = Graphs.full();
        for (int part : NO_PARTS) {
            due("rank(0, " + part + ")", x.rank(0, part), -2);
        }
    }

    private static void promise12_rank_twoClosedSets() {
        WalkRanks x = Graphs.byWeights(3, 0, 1, 1);
        due("rank(0, 0), 0 is in none", x.rank(0, 0), -3);
        due("rank(1, 0)", x.rank(1, 0), -3);
        due("rank(2, 1)", x.rank(2, 1), -3);
    }

    private static void promise12_rank_fiveClosedSets() {
        due("rank(4, 1)", Graphs.byWeights(5).rank(4, 1), -3);
    }

    private static void promise12_rank_noNodeIsToldAheadOfAll() {
        WalkRanks x = Graphs.byWeights(2);
        due("rank(2, 2)", x.rank(2, 2), -1);
        due("rank(2, 0)", x.rank(2, 0), -1);
    }

    private static void promise12_rank_boundsAreToldAheadOfSets() {
        due("rank(0, 2)", Graphs.byWeights(2).rank(0, 2), -2);
    }

    private static void promise12_rank_refusedChangesNothing() {
        dueSame(Graphs.byWeights(4, 0, 1, 1), y -> {
            y.rank(4, 0);
            y.rank(0, 2);
            y.rank(0, 0);
        });
    }

    private static void promise12_rank_outsideTheSetIs0By1() {
        WalkRanks x = leaving();
        dueRank(x, 0, "0/1");
        dueRank(x, 1, "1/1");
    }

    private static void promise12_rank_ofOneNodeIs1By1() {
        dueRank(Graphs.withNodes(1), 0, "1/1");
        dueRank(Graphs.byWeights(1), 0, "1/1");
    }

    private static void promise12_rank_isToldInLowestTerms() {
        WalkRanks x = Graphs.lineWithTurns();
        dueRank(x, 0, "1/8");
        dueRank(x, 1, "1/4");
    }

    private static void promise12_rank_ofASetWithAPeriod() {
        WalkRanks x = Graphs.round(5);
        for (int v = 0; v < 5; v++) {
            dueRank(x, v, "1/5");
        }
    }

    private static void promise12_rank_ofLargeNumbers() {
        WalkRanks x = written(new int[] {1, 2, 2, 2, 2, 2, 2, 2, 2, 1, 2, 2, 1, 2, 2, 2, 1, 2, 2, 2, 2, 2, 2, 1, 1},
                1, 2, 2, 2, 1);
        x.keep(1, 4);
        dueRank(x, 0, "16549713/113190104");
    }

    // The NODE at place k, from 0: by RANKS, the greatest first, of the same by numbers. -1 .. no such place, -3.

    private static void promise13_place_ofNoPlace() {
        WalkRanks x = Graphs.full();
        for (int k : NO_NODES) {
            due("place(" + k + ")", x.place(k), -1);
        }
    }

    private static void promise13_place_asManyAsNodes() {
        WalkRanks x = Graphs.withNodes(3);
        due("place(2)", x.place(2), 2);
        due("place(3)", x.place(3), -1);
    }

    private static void promise13_place_withoutNodes() {
        due("place(0)", new WalkRanks().place(0), -1);
    }

    private static void promise13_place_ofOneNode() {
        WalkRanks x = Graphs.withNodes(1);
        due("place(0)", x.place(0), 0);
        due("place(1)", x.place(1), -1);
    }

    private static void promise13_place_twoClosedSets() {
        WalkRanks x = Graphs.byWeights(3, 0, 1, 1);
        duePlaces(x, -3, -3, -3);
    }

    private static void promise13_place_noPlaceIsToldAheadOfSets() {
        WalkRanks x = Graphs.byWeights(2);
        due("place(2)", x.place(2), -1);
        due("place(-1)", x.place(-1), -1);
    }

    private static void promise13_place_refusedChangesNothing() {
        dueSame(Graphs.byWeights(4, 0, 1, 1), y -> {
            y.place(4);
            y.place(-1);
            y.place(0);
        });
    }

    private static void promise13_place_allRanksTheSame() {
        duePlaces(Graphs.round(5), 0, 1, 2, 3, 4);
    }

    private static void promise13_place_someRanksTheSame() {
        duePlaces(Graphs.lineWithTurns(), 1, 2, 3, 0, 4);
    }

    private static void promise13_place_theGreatestFirst() {
        // shares 1, 2, 0, 2, 1 by jumps alone
        WalkRanks x = Graphs.withNodes(5);
        x.jump(1, 2);
        x.jump(2, 0);
        x.jump(3, 2);
        duePlaces(x, 1, 3, 0, 4, 2);
    }

    private static void promise13_place_rank0IsLastByNumbers() {
        duePlaces(Graphs.byWeights(4, 0, 3, 1, 1, 0, 1, 2, 1, 2, 3, 3, 1), 3, 0, 1, 2);
    }

    // The CHANCE that a walk from u COMES to v. -1, -2. it is at one of them at some time (from its beginning on)

    private static void promise14_reach_ofNoNode() {
        WalkRanks x = Graphs.full();
        for (int v : NO_NODES) {
            due("reach(" + v + ", 0, 0)", x.reach(v, 0, 0), -1);
            due("reach(0, " + v + ", 0)", x.reach(0, v, 0), -1);
        }
    }

    private static void promise14_reach_ofNoPart() {
        WalkRanks x = Graphs.full();
        for (int part : NO_PARTS) {
            due("reach(0, 1, " + part + ")", x.reach(0, 1, part), -2);
            due("reach(0, 0, " + part + ")", x.reach(0, 0, part), -2);
        }
    }

    private static void promise14_reach_noNodeIsToldAheadOfBounds() {
        WalkRanks x = Graphs.withNodes(2);
        due("reach(2, 0, 2)", x.reach(2, 0, 2), -1);
        due("reach(0, 2, -1)", x.reach(0, 2, -1), -1);
    }

    private static void promise14_reach_refusedChangesNothing() {
        dueSame(mixed(4), y -> {
            y.reach(4, 0, 0);
            y.reach(0, -1, 0);
            y.reach(0, 1, 2);
        });
    }

    private static void promise14_reach_itselfIs1FromTheBeginning() {
        // from 0 no walk comes back
        dueReach(Graphs.byWeights(2, 0, 1, 1), 0, 0, "1/1");
    }

    private static void promise14_reach_noWayIs0By1() {
        dueReach(leaving(), 1, 0, "0/1");
        dueReach(Graphs.byWeights(5), 0, 4, "0/1");
    }

    private static void promise14_reach_sureIs1By1() {
        dueReach(leaving(), 0, 1, "1/1");
        dueReach(Graphs.round(5), 1, 0, "1/1");
    }

    private static void promise14_reach_isToldInLowestTerms() {
        WalkRanks x = Graphs.lineWithStops(1, 1);
        dueReach(x, 2, 4, "1/2");
        dueReach(x, 3, 4, "3/4");
    }

    private static void promise14_reach_aNodeThatIsLeftAgain() {
        WalkRanks x = Graphs.lineWithStops(1, 1);
        dueReach(x, 1, 2, "1/2");
        dueReach(x, 1, 3, "1/3");
    }

    private static void promise14_reach_ofLargeNumbers() {
        WalkRanks x = written(new int[] {2, 2, 2, 2, 1, 0, 2, 1, 0, 2, 2, 2, 1, 2, 2, 0, 0, 0, 1, 0, 2, 1, 2, 2, 2},
                0, 0, 0, 1, 0);
        x.keep(1, 4);
        dueReach(x, 0, 1, "2551/40106");
    }

    // How many STEPS it takes till then on the whole. -1, -2, -3 that CHANCE is not 1.

    private static void promise15_hit_ofNoNode() {
        WalkRanks x = Graphs.full();
        for (int v : NO_NODES) {
            due("hit(" + v + ", 0, 0)", x.hit(v, 0, 0), -1);
            due("hit(0, " + v + ", 0)", x.hit(0, v, 0), -1);
        }
    }

    private static void promise15_hit_ofNoPart() {
        WalkRanks x = Graphs.full();
        for (int part : NO_PARTS) {
            due("hit(0, 1, " + part + ")", x.hit(0, 1, part), -2);
            due("hit(0, 0, " + part + ")", x.hit(0, 0, part), -2);
        }
    }

    private static void promise15_hit_noNodeIsToldAheadOfAll() {
        WalkRanks x = Graphs.byWeights(2);
        due("hit(2, 0, 2)", x.hit(2, 0, 2), -1);
        due("hit(0, 2, 0)", x.hit(0, 2, 0), -1);
    }

    private static void promise15_hit_boundsAreToldAheadOfTheChance() {
        due("hit(0, 1, 2)", Graphs.byWeights(2).hit(0, 1, 2), -2);
    }

    private static void promise15_hit_refusedChangesNothing() {
        dueSame(Graphs.byWeights(4, 0, 1, 1), y -> {
            y.hit(4, 0, 0);
            y.hit(0, -1, 0);
            y.hit(0, 1, 2);
            y.hit(1, 0, 0);
        });
    }

    private static void promise15_hit_itselfTakes0By1() {
        dueHit(Graphs.round(5), 3, 3, "0/1");
        dueHit(Graphs.byWeights(2, 0, 1, 1), 0, 0, "0/1");
    }

    private static void promise15_hit_chance0() {
        dueHit(leaving(), 1, 0, "-3/-3");
    }

    private static void promise15_hit_chanceBetween0And1() {
        WalkRanks x = Graphs.lineWithStops(1, 2);
        dueHit(x, 3, 4, "-3/-3");
        dueHit(x, 1, 2, "-3/-3");
    }

    private static void promise15_hit_chance1ThoughWaysHaveNoEnd() {
        dueHit(leaving(), 0, 1, "2/1");
    }

    private static void promise15_hit_chance1ThoughWalksAreLostBehind() {
        // from 1 a walk goes to 2 and stays: it is lost for 0, but not ahead of 1
        WalkRanks x = Graphs.byWeights(3, 0, 0, 2, 0, 1, 1, 1, 2, 1);
        dueHit(x, 0, 1, "3/1");
    }

    private static void promise15_hit_oneStep() {
        dueHit(Graphs.round(5), 4, 0, "1/1");
    }

    private static void promise15_hit_fractionInLowestTerms() {
        // 2/4 of the steps from 0 stay, jumps to 1 are 1/4
        WalkRanks x = Graphs.withNodes(3);
        x.jump(0, 2);
        dueHit(x, 0, 1, "4/1");
        x.jump(1, 2);
        dueHit(x, 0, 1, "5/2");
    }

    private static void promise15_hit_ofLargeNumbers() {
        WalkRanks x = written(new int[] {2, 1, 2, 2, 2, 0, 0, 0, 1, 2, 2, 2, 1, 2, 2, 2, 2, 2, 2, 1, 1, 2, 2, 2, 2},
                2, 2, 2, 1, 1);
        x.keep(1, 4);
        dueHit(x, 0, 1, "13810176/3176705");
    }

    // How many STEPS it takes on the whole till a walk from v is at v again. -1, -2, -3 it is in no CLOSED set.

    private static void promise16_back_ofNoNode() {
        WalkRanks x = Graphs.full();
        for (int v : NO_NODES) {
            due("back(" + v + ", 0)", x.back(v, 0), -1);
        }
    }

    private static void promise16_back_ofNoPart() {
        WalkRanks x = Graphs.full();
        for (int part : NO_PARTS) {
            due("back(0, " + part + ")", x.back(0, part), -2);
        }
    }

    private static void promise16_back_noNodeIsToldAheadOfAll() {
        due("back(2, 2)", Graphs.byWeights(2, 0, 1, 1).back(2, 2), -1);
    }

    private static void promise16_back_boundsAreToldAheadOfTheSet() {
        due("back(0, 2)", Graphs.byWeights(2, 0, 1, 1).back(0, 2), -2);
    }

    private static void promise16_back_refusedChangesNothing() {
        dueSame(Graphs.byWeights(4, 0, 1, 1), y -> {
            y.back(4, 0);
            y.back(-1, 0);
            y.back(0, 2);
            y.back(0, 0);
        });
    }

    private static void promise16_back_inNoClosedSet() {
        dueBack(Graphs.byWeights(2, 0, 1, 1), 0, "-3/-3");
    }

    private static void promise16_back_inNoClosedSetThoughAWalkMayStay() {
        dueBack(leaving(), 0, "-3/-3");
    }

    private static void promise16_back_theLeastIs1By1() {
        dueBack(Graphs.byWeights(1), 0, "1/1");
        dueBack(leaving(), 1, "1/1");
    }

    private static void promise16_back_aRoundIsAsLongAsItIs() {
        dueBack(Graphs.round(5), 4, "5/1");
    }

    private static void promise16_back_whereThereAreSeveralSets() {
        WalkRanks x = Graphs.byWeights(5, 0, 0, 1, 1, 2, 1, 2, 1, 1, 3, 4, 2, 4, 3, 1, 4, 4, 1);
        dueBack(x, 0, "1/1");
        dueBack(x, 1, "2/1");
        dueBack(x, 3, "3/1");
        dueBack(x, 4, "3/2");
    }

    private static void promise16_back_ofLargeNumbers() {
        WalkRanks x = written(new int[] {2, 2, 2, 2, 1, 2, 2, 1, 2, 2, 1, 2, 2, 2, 2, 2, 2, 2, 1, 2, 2, 2, 1, 2, 1},
                2, 1, 1, 2, 2);
        x.keep(1, 4);
        dueBack(x, 0, "110130928/26517645");
    }

    // The CHANCE that a walk from u COMES to a CLOSED set. -1, -2.

    private static void promise17_end_ofNoNode() {
        WalkRanks x = Graphs.byWeights(5);
        for (int u : NO_NODES) {
            due("end(" + u + ", 0, 0)", x.end(u, 0, 0), -1);
        }
    }

    private static void promise17_end_ofNoSet() {
        WalkRanks x = Graphs.byWeights(5);
        for (int set : NO_NODES) {
            due("end(0, " + set + ", 0)", x.end(0, set, 0), -1);
        }
    }

    private static void promise17_end_setsAreFewerThanNodes() {
        WalkRanks x = Graphs.lineWithStops(1, 1);
        dueEnd(x, 4, 1, "1/1");
        dueEnd(x, 4, 2, "-1/-1");
    }

    private static void promise17_end_ofNoPart() {
        WalkRanks x = Graphs.byWeights(5);
        for (int part : NO_PARTS) {
            due("end(0, 0, " + part + ")", x.end(0, 0, part), -2);
            due("end(0, 1, " + part + ")", x.end(0, 1, part), -2);
        }
    }

    private static void promise17_end_noNodeOrSetIsToldAheadOfBounds() {
        WalkRanks x = Graphs.byWeights(2);
        due("end(2, 0, 2)", x.end(2, 0, 2), -1);
        due("end(0, 2, 2)", x.end(0, 2, 2), -1);
    }

    private static void promise17_end_refusedChangesNothing() {
        dueSame(mixed(4), y -> {
            y.end(4, 0, 0);
            y.end(0, 1, 0);
            y.end(0, 0, 2);
        });
    }

    private static void promise17_end_inTheSetIs1FromTheBeginning() {
        WalkRanks x = Graphs.byWeights(5);
        for (int v = 0; v < 5; v++) {
            dueEnd(x, v, v, "1/1");
        }
    }

    private static void promise17_end_inAnotherSetIs0By1() {
        WalkRanks x = Graphs.byWeights(5);
        dueEnd(x, 0, 4, "0/1");
        dueEnd(x, 4, 0, "0/1");
    }

    private static void promise17_end_inTheOnlySetIsSure() {
        dueEnd(leaving(), 0, 0, "1/1");
        dueEnd(Graphs.full(), 4, 0, "1/1");
    }

    private static void promise17_end_noWayToTheSetIs0By1() {
        // 0 goes to 1 alone, 3 to 2 alone
        WalkRanks x = Graphs.byWeights(4, 0, 1, 1, 3, 2, 1);
        dueEnd(x, 0, 0, "1/1");
        dueEnd(x, 0, 1, "0/1");
        dueEnd(x, 3, 0, "0/1");
        dueEnd(x, 3, 1, "1/1");
    }

    private static void promise17_end_aSetEnteredAtSeveralNodes() {
        // from 0: 1 to each of 1 and 2, which are one set, 2 to 3
        WalkRanks x = Graphs.byWeights(4, 0, 1, 1, 0, 2, 1, 0, 3, 2, 1, 2, 1, 2, 1, 1);
        dueEnd(x, 0, 0, "1/2");
        dueEnd(x, 0, 1, "1/2");
    }

    private static void promise17_end_isToldInLowestTerms() {
        dueEnd(Graphs.lineWithStops(1, 1), 2, 1, "1/2");
    }

    // The CHANCE that a walk from u is at v behind k STEPS (0 to 3). -1, -2.

    private static void promise18_after_ofNoNode() {
        WalkRanks x = Graphs.full();
        for (int v : NO_NODES) {
            due("after(" + v + ", 0, 1, 0)", x.after(v, 0, 1, 0), -1);
            due("after(0, " + v + ", 1, 0)", x.after(0, v, 1, 0), -1);
        }
    }

    private static void promise18_after_ofNoPart() {
        WalkRanks x = Graphs.full();
        for (int part : NO_PARTS) {
            due("after(0, 0, 0, " + part + ")", x.after(0, 0, 0, part), -2);
            due("after(0, 1, 3, " + part + ")", x.after(0, 1, 3, part), -2);
        }
    }

    private static void promise18_after_fewerThan0StepsAreRefused() {
        WalkRanks x = Graphs.full();
        due("after(0, 0, -1, 0)", x.after(0, 0, -1, 0), -2);
        due("after(0, 0, LEAST, 1)", x.after(0, 0, LEAST, 1), -2);
    }

    private static void promise18_after_moreThan3StepsAreRefused() {
        WalkRanks x = Graphs.full();
        due("after(0, 0, 4, 0)", x.after(0, 0, 4, 0), -2);
        due("after(0, 0, MOST, 1)", x.after(0, 0, MOST, 1), -2);
    }

    private static void promise18_after_noNodeIsToldAheadOfBounds() {
        WalkRanks x = Graphs.withNodes(2);
        due("after(2, 0, 4, 0)", x.after(2, 0, 4, 0), -1);
        due("after(0, 2, -1, 0)", x.after(0, 2, -1, 0), -1);
        due("after(0, 2, 1, 2)", x.after(0, 2, 1, 2), -1);
    }

    private static void promise18_after_refusedChangesNothing() {
        dueSame(mixed(4), y -> {
            y.after(4, 0, 1, 0);
            y.after(0, -1, 1, 0);
            y.after(0, 1, 4, 0);
            y.after(0, 1, -1, 0);
            y.after(0, 1, 1, 2);
        });
    }

    private static void promise18_after_0StepsToItselfIs1By1() {
        dueAfter(Graphs.round(5), 2, 2, 0, "1/1");
    }

    private static void promise18_after_0StepsToAnotherIs0By1() {
        dueAfter(Graphs.full(), 2, 3, 0, "0/1");
    }

    private static void promise18_after_1StepIsItsChance() {
        WalkRanks x = Graphs.byWeights(2, 0, 0, 1, 0, 1, 2);
        dueAfter(x, 0, 0, 1, "1/3");
        dueAfter(x, 0, 1, 1, "2/3");
    }

    private static void promise18_after_3StepsAreTaken() {
        WalkRanks x = Graphs.round(5);
        dueAfter(x, 4, 2, 3, "1/1");
        dueAfter(x, 4, 1, 3, "0/1");
    }

    private static void promise18_after_isNotChanceToComeThere() {
        // behind two steps a walk has come to 1, and left it
        WalkRanks x = Graphs.round(3);
        dueAfter(x, 0, 1, 2, "0/1");
    }

    private static void promise18_after_isToldInLowestTerms() {
        dueAfter(Graphs.full(), 0, 4, 3, "1/5");
        dueAfter(leaving(), 0, 1, 3, "7/8");
    }

    private static void promise18_after_numbersBeyondAnInt() {
        WalkRanks x = written(new int[] {2, 2, 2, 2, 1, 2, 1, 1, 2, 2, 1, 2, 1, 1, 0, 1, 2, 0, 2, 2, 0, 1, 2, 0, 2},
                2, 1, 2, 1, 2);
        x.keep(1, 4);
        dueAfter(x, 0, 1, 3, "4594654387/29262643200");
    }

    // WALKS. -1, -2 k is not 0 .. 12. (1 for k = 0, u = v)

    private static void promise19_walks_ofNoNode() {
        WalkRanks x = Graphs.full();
        for (int v : NO_NODES) {
            due("walks(" + v + ", 0, 1)", x.walks(v, 0, 1), -1);
            due("walks(0, " + v + ", 1)", x.walks(0, v, 1), -1);
        }
    }

    private static void promise19_walks_fewerThan0StepsAreRefused() {
        WalkRanks x = Graphs.full();
        due("walks(0, 0, -1)", x.walks(0, 0, -1), -2);
        due("walks(0, 0, LEAST)", x.walks(0, 0, LEAST), -2);
    }

    private static void promise19_walks_moreThan12StepsAreRefused() {
        WalkRanks x = Graphs.full();
        due("walks(0, 0, 13)", x.walks(0, 0, 13), -2);
        due("walks(0, 0, MOST)", x.walks(0, 0, MOST), -2);
    }

    private static void promise19_walks_noNodeIsToldAheadOfBounds() {
        WalkRanks x = Graphs.withNodes(2);
        due("walks(2, 0, 13)", x.walks(2, 0, 13), -1);
        due("walks(0, 2, -1)", x.walks(0, 2, -1), -1);
    }

    private static void promise19_walks_refusedChangesNothing() {
        dueSame(mixed(4), y -> {
            y.walks(4, 0, 1);
            y.walks(0, -1, 1);
            y.walks(0, 1, 13);
            y.walks(0, 1, -1);
        });
    }

    private static void promise19_walks_0StepsToItselfAre1() {
        due("walks(0, 0, 0) without weights", Graphs.byWeights(2).walks(0, 0, 0), 1);
        due("walks(4, 4, 0) of weights 2", Graphs.full().walks(4, 4, 0), 1);
    }

    private static void promise19_walks_0StepsToAnotherAre0() {
        due("walks(0, 4, 0)", Graphs.full().walks(0, 4, 0), 0);
    }

    private static void promise19_walks_1StepIsTheWeight() {
        WalkRanks x = Graphs.withNodes(2);
        x.weight(0, 1, 2);
        due("walks(0, 1, 1)", x.walks(0, 1, 1), 2);
        due("walks(1, 0, 1)", x.walks(1, 0, 1), 0);
    }

    private static void promise19_walks_12StepsAreTaken() {
        WalkRanks x = Graphs.byWeights(1, 0, 0, 2);
        due("walks(0, 0, 11)", x.walks(0, 0, 11), 2048);
        due("walks(0, 0, 12)", x.walks(0, 0, 12), 4096);
    }

    private static void promise19_walks_theGreatestIsBeyondAnInt() {
        due("walks(4, 0, 12)", Graphs.full().walks(4, 0, 12), 200_000_000_000L);
    }

    private static void promise19_walks_withoutWeightsAre0() {
        WalkRanks x = Graphs.withNodes(5);
        due("walks(0, 0, 1), a walk by jumps only", x.walks(0, 0, 1), 0);
        due("walks(0, 4, 12), a walk by jumps only", x.walks(0, 4, 12), 0);
    }

    private static void promise19_walks_keepAndJumpsDoNotCount() {
        WalkRanks x = Graphs.full();
        x.keep(0, 1);
        x.jump(0, 0);
        due("walks(0, 0, 2)", x.walks(0, 0, 2), 20);
    }

    // The NODE at which the walk DRAWN from u is behind k STEPS (0 to 200). -1, -2.

    private static void promise20_drawn_ofNoNode() {
        WalkRanks x = Graphs.full();
        for (int u : NO_NODES) {
            due("drawn(" + u + ", 0, 1)", x.drawn(u, 0, 1), -1);
        }
    }

    private static void promise20_drawn_fewerThan0StepsAreRefused() {
        WalkRanks x = Graphs.full();
        due("drawn(0, 0, -1)", x.drawn(0, 0, -1), -2);
        due("drawn(0, 0, LEAST)", x.drawn(0, 0, LEAST), -2);
    }

    private static void promise20_drawn_moreThan200StepsAreRefused() {
        WalkRanks x = Graphs.full();
        due("drawn(0, 0, 201)", x.drawn(0, 0, 201), -2);
        due("drawn(0, 0, MOST)", x.drawn(0, 0, MOST), -2);
    }

    private static void promise20_drawn_noNodeIsToldAheadOfBounds() {
        WalkRanks x = Graphs.withNodes(2);
        due("drawn(2, 0, 201)", x.drawn(2, 0, 201), -1);
        due("drawn(-1, 0, -1)", x.drawn(-1, 0, -1), -1);
    }

    private static void promise20_drawn_refusedChangesNothing() {
        dueSame(mixed(4), y -> {
            y.drawn(4, 0, 1);
            y.drawn(-1, 0, 1);
            y.drawn(0, 0, 201);
            y.drawn(0, 0, -1);
        });
    }

    private static void promise20_drawn_0StepsStayAtU() {
        WalkRanks x = Graphs.full();
        for (int seed : new int[] {LEAST, -1, 0, 1, MOST}) {
            due("drawn(3, " + seed + ", 0)", x.drawn(3, seed, 0), 3);
        }
    }

    private static void promise20_drawn_200StepsAreTaken() {
        WalkRanks x = Graphs.round(3);
        due("drawn(0, 0, 199)", x.drawn(0, 0, 199), 1);
        due("drawn(0, 0, 200)", x.drawn(0, 0, 200), 2);
    }

    private static void promise20_drawn_whereBothAre0AWalkStays() {
        due("drawn(1, 7, 200)", Graphs.byWeights(2).drawn(1, 7, 200), 1);
    }

    // z becomes z * 1664525 + 1013904223 (wrapping); t is z, moved right by 1, zeros coming in, modulo T(u)

    private static void promise20_drawn_anySeedIsTaken() {
        WalkRanks x = Graphs.withNodes(5);
        // z is 3161387871, 3159723346, 1012239698, without a sign; t is half of it modulo 5
        due("drawn(2, LEAST, 1)", x.drawn(2, LEAST, 1), 0);
        due("drawn(2, MOST, 1)", x.drawn(2, MOST, 1), 3);
        due("drawn(2, -1, 1)", x.drawn(2, -1, 1), 4);
    }

    private static void promise20_drawn_zerosComeInFromTheLeft() {
        // z is 2678429223, which as an int is below 0; half of it is 1339214611
        due("drawn(0, 1000, 1)", Graphs.withNodes(5).drawn(0, 1000, 1), 1);
    }

    private static void promise20_drawn_zWrapsFromStepToStep() {
        // z is 1013904223, 1196435762, 3519870697: t is 1, 1, 3
        WalkRanks x = Graphs.withNodes(5);
        due("drawn(2, 0, 1)", x.drawn(2, 0, 1), 1);
        due("drawn(2, 0, 2)", x.drawn(2, 0, 2), 1);
        due("drawn(2, 0, 3)", x.drawn(2, 0, 3), 3);
    }

    private static void promise20_drawn_moduloTOfTheNodeAtWhichItIs() {
        // from 0 (T 2) by t 1 to 1, from 1 (T 3) by 598217881 modulo 3, which is 1, to 2
        WalkRanks x = Graphs.byWeights(4, 0, 0, 1, 0, 1, 1, 1, 1, 1, 1, 2, 1, 1, 3, 1);
        due("drawn(0, 0, 1)", x.drawn(0, 0, 1), 1);
        due("drawn(0, 0, 2)", x.drawn(0, 0, 2), 2);
    }

    // the first v with which the sum of n(u, 0), n(u, 1), .. comes to be above t

    private static void promise20_drawn_t0IsTheFirstNodeWithAChance() {
        // half of the first z is 506952111, which 3 divides
        WalkRanks x = Graphs.withNodes(3);
        due("drawn(2, 0, 1)", x.drawn(2, 0, 1), 0);
        x.jump(0, 0);
        x.jump(2, 2);
        due("drawn(2, 0, 1) without a chance of 0", x.drawn(2, 0, 1), 1);
    }

    private static void promise20_drawn_aSumThatIsTIsNotAbove() {
        // t is 1 by T 2, and the sum with 0 is 1
        due("drawn(0, 0, 1)", Graphs.withNodes(2).drawn(0, 0, 1), 1);
    }

    private static void promise20_drawn_nodesWithoutAChanceArePassedBy() {
        WalkRanks x = Graphs.withNodes(4);
        x.jump(1, 0);
        x.jump(2, 0);
        due("drawn(0, 0, 1), t 1 by T 2", x.drawn(0, 0, 1), 3);
    }

    private static void promise20_drawn_theGreatestTIsTheLastNode() {
        // 506119849 modulo 5 is 4
        due("drawn(0, -1, 1)", Graphs.withNodes(5).drawn(0, -1, 1), 4);
    }
}

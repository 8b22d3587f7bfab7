/** Answers worked out by hand, promise by promise: ordinary inputs, edges, wrong inputs. */
public final class WalkRanksPromises {
    private static final int LEAST = Integer.MIN_VALUE;
    private static final int MOST = Integer.MAX_VALUE;

    public static void main(String[] args) {
        newObject();
        node();
        weight();
        jump();
        keep();
        clear();
        rowAndTotal();
        rowsOfTheFourKinds();
        closedSets();
        period();
        rank();
        place();
        reach();
        hit();
        back();
        end();
        after();
        walks();
        drawn();
        refusalsChangeNothing();
        exampleOfReadme();
        Due.finish();
    }

    private static void due(int promise, String call, long got, long want) {
        Due.answer("promise " + promise, call, got, want);
    }

    private static void dueFraction(int promise, String call, long above, long below, String want) {
        Due.fraction("promise " + promise, call, above, below, want);
    }

    private static void dueRank(WalkRanks x, int v, String want) {
        dueFraction(12, "rank(" + v + ")", x.rank(v, 0), x.rank(v, 1), want);
    }

    private static void dueReach(WalkRanks x, int u, int v, String want) {
        dueFraction(14, "reach(" + u + ", " + v + ")", x.reach(u, v, 0), x.reach(u, v, 1), want);
    }

    private static void dueHit(WalkRanks x, int u, int v, String want) {
        dueFraction(15, "hit(" + u + ", " + v + ")", x.hit(u, v, 0), x.hit(u, v, 1), want);
    }

    private static void dueBack(WalkRanks x, int v, String want) {
        dueFraction(16, "back(" + v + ")", x.back(v, 0), x.back(v, 1), want);
    }

    private static void dueEnd(WalkRanks x, int u, int set, String want) {
        dueFraction(17, "end(" + u + ", " + set + ")", x.end(u, set, 0), x.end(u, set, 1), want);
    }

    private static void dueAfter(WalkRanks x, int u, int v, int k, String want) {
        dueFraction(18, "after(" + u + ", " + v + ", " + k + ")", x.after(u, v, k, 0), x.after(u, v, k, 1), want);
    }

    private static void newObject() {
        WalkRanks x = new WalkRanks();
        due(1, "closed()", x.closed(), 0);
        due(1, "closedOf(0)", x.closedOf(0), -1);
        due(1, "total(0)", x.total(0), -1);
        due(1, "place(0)", x.place(0), -1);
        due(1, "period(0)", x.period(0), -1);
        due(1, "clear()", x.clear(), 0);
        due(1, "node()", x.node(), 0);
        due(1, "node()", x.node(), 1);
        due(1, "weight(0, 1, 1)", x.weight(0, 1, 1), 0);
        due(1, "total(0) by KEEP 1 of 1", x.total(0), 1);
        due(1, "row(0, 1) by KEEP 1 of 1", x.row(0, 1), 1);
        due(1, "another object's clear()", new WalkRanks().clear(), 0);
    }

    private static void node() {
        WalkRanks x = new WalkRanks();
        for (int v = 0; v < 5; v++) {
            due(2, "node()", x.node(), v);
            due(2, "WEIGHT of a new one", x.weight(v, v, 1), 0);
            due(2, "WEIGHT of a new one", x.weight(0, v, 1), v == 0 ? 1 : 0);
            due(2, "JUMP of a new one", x.jump(v, 2), 1);
        }
        due(2, "node()", x.node(), -4);
        due(2, "node()", x.node(), -4);
        due(2, "jump(4, 0)", x.jump(4, 0), 2);
        due(2, "clear()", x.clear(), 5);
        due(2, "node() behind clear()", x.node(), 0);
    }

    private static void weight() {
        WalkRanks x = Graphs.withNodes(2);
        due(3, "weight(0, 1, 2)", x.weight(0, 1, 2), 0);
        due(3, "weight(1, 0, 1)", x.weight(1, 0, 1), 0);
        due(3, "weight(0, 0, 1)", x.weight(0, 0, 1), 0);
        due(3, "weight(0, 1, 0)", x.weight(0, 1, 0), 2);
        due(3, "weight(0, 1, 1)", x.weight(0, 1, 1), 0);
        due(3, "weight(0, 1, 1)", x.weight(0, 1, 1), 1);
        due(3, "weight(0, 1, 3)", x.weight(0, 1, 3), -2);
        due(3, "weight(0, 1, -1)", x.weight(0, 1, -1), -2);
        due(3, "weight(0, 1, LEAST)", x.weight(0, 1, LEAST), -2);
        due(3, "weight(0, 1, MOST)", x.weight(0, 1, MOST), -2);
        due(3, "weight(0, 2, 1)", x.weight(0, 2, 1), -1);
        due(3, "weight(2, 0, 1)", x.weight(2, 0, 1), -1);
        due(3, "weight(-1, 0, 1)", x.weight(-1, 0, 1), -1);
        due(3, "weight(0, -1, 1)", x.weight(0, -1, 1), -1);
        due(3, "weight(LEAST, MOST, 3)", x.weight(LEAST, MOST, 3), -1);
        due(3, "weight(0, 2, 3)", x.weight(0, 2, 3), -1);
        due(3, "weight(0, 1, 2)", x.weight(0, 1, 2), 1);
        due(3, "weight(1, 0, 0)", x.weight(1, 0, 0), 1);
        due(3, "weight(0, 0, 0)", x.weight(0, 0, 0), 1);
    }

    private static void jump() {
        WalkRanks x = Graphs.withNodes(2);
        due(4, "jump(0, 2)", x.jump(0, 2), 1);
        due(4, "jump(0, 0)", x.jump(0, 0), 2);
        due(4, "jump(1, 2)", x.jump(1, 2), 1);
        due(4, "jump(0, 1)", x.jump(0, 1), 0);
        due(4, "jump(0, 3)", x.jump(0, 3), -2);
        due(4, "jump(0, -1)", x.jump(0, -1), -2);
        due(4, "jump(0, LEAST)", x.jump(0, LEAST), -2);
        due(4, "jump(2, 1)", x.jump(2, 1), -1);
        due(4, "jump(-1, 1)", x.jump(-1, 1), -1);
        due(4, "jump(MOST, 3)", x.jump(MOST, 3), -1);
        due(4, "jump(0, 0)", x.jump(0, 0), 1);
        due(4, "row(0, 1)", x.row(0, 1), 1);
        due(4, "row(0, 0)", x.row(0, 0), 0);
    }

    private static void keep() {
        WalkRanks x = Graphs.withNodes(2);
        x.weight(0, 1, 1);
        for (int y = 1; y <= 4; y++) {
            for (int above = 0; above <= y; above++) {
                due(5, "keep(" + above + ", " + y + ")", x.keep(above, y), 1);
            }
            due(5, "keep(" + (y + 1) + ", " + y + ")", x.keep(y + 1, y), -2);
            due(5, "keep(-1, " + y + ")", x.keep(-1, y), -2);
        }
        due(5, "keep(3, 4)", x.keep(3, 4), 1);
        due(5, "keep(0, 0)", x.keep(0, 0), -2);
        due(5, "keep(0, 5)", x.keep(0, 5), -2);
        due(5, "keep(0, -1)", x.keep(0, -1), -2);
        due(5, "keep(-2, -1)", x.keep(-2, -1), -2);
        due(5, "keep(LEAST, MOST)", x.keep(LEAST, MOST), -2);
        due(5, "total(0)", x.total(0), 8);
        due(5, "row(0, 1)", x.row(0, 1), 7);
    }

    private static void clear() {
        WalkRanks x = Graphs.withNodes(3);
        x.weight(0, 1, 2);
        x.weight(2, 2, 1);
        x.jump(1, 0);
        x.keep(1, 2);
        due(6, "clear()", x.clear(), 3);
        due(6, "clear()", x.clear(), 0);
        due(6, "closed()", x.closed(), 0);
        due(6, "row(0, 0)", x.row(0, 0), -1);
        due(6, "node()", x.node(), 0);
        due(6, "node()", x.node(), 1);
        due(6, "weight(0, 1, 1)", x.weight(0, 1, 1), 0);
        due(6, "jump(1, 1)", x.jump(1, 1), 1);
        due(6, "total(0): KEEP stays 1 of 2", x.total(0), 4);
        due(6, "row(0, 1): KEEP stays 1 of 2", x.row(0, 1), 3);
        due(6, "node()", x.node(), 2);
        due(6, "weight(2, 2, 0)", x.weight(2, 2, 0), 0);
    }

    private static void rowAndTotal() {
        WalkRanks x = Graphs.withNodes(3);
        x.weight(0, 1, 2);
        x.weight(0, 2, 2);
        due(7, "row(0, 0)", x.row(0, 0), 0);
        due(7, "row(0, 1) in least numbers", x.row(0, 1), 1);
        due(7, "row(0, 2) in least numbers", x.row(0, 2), 1);
        due(8, "total(0)", x.total(0), 2);
        due(7, "row(0, 3)", x.row(0, 3), -1);
        due(7, "row(3, 0)", x.row(3, 0), -1);
        due(7, "row(-1, 0)", x.row(-1, 0), -1);
        due(7, "row(0, LEAST)", x.row(0, LEAST), -1);
        due(8, "total(3)", x.total(3), -1);
        due(8, "total(-1)", x.total(-1), -1);
        due(8, "total(MOST)", x.total(MOST), -1);
    }

    private static void rowsOfTheFourKinds() {
        WalkRanks x = Graphs.withNodes(2);
        x.weight(0, 1, 1);
        x.jump(1, 2);
        x.keep(1, 4);
        // 1/4 of 1 and 3/4 of 2/3 for node 1, 3/4 of 1/3 for node 0
        due(8, "total(0), OUT and J above 0", x.total(0), 4);
        due(7, "row(0, 0), OUT and J above 0", x.row(0, 0), 1);
        due(7, "row(0, 1), OUT and J above 0", x.row(0, 1), 3);
        due(8, "total(1), OUT 0", x.total(1), 3);
        due(7, "row(1, 0), OUT 0", x.row(1, 0), 1);
        due(7, "row(1, 1), OUT 0", x.row(1, 1), 2);
        x.jump(0, 0);
        x.jump(1, 0);
        due(8, "total(0), J 0", x.total(0), 1);
        due(7, "row(0, 0), J 0", x.row(0, 0), 0);
        due(7, "row(0, 1), J 0", x.row(0, 1), 1);
        due(8, "total(1), both 0", x.total(1), 1);
        due(7, "row(1, 0), both 0", x.row(1, 0), 0);
        due(7, "row(1, 1), both 0", x.row(1, 1), 1);
        x.keep(0, 3);
        due(7, "row(0, 1), J 0, KEEP 0", x.row(0, 1), 1);
        WalkRanks least = Graphs.withNodes(2);
        least.weight(0, 0, 1);
        least.jump(0, 0);
        least.keep(1, 2);
        due(8, "total(0), OUT and J 1", least.total(0), 2);
        due(7, "row(0, 0), OUT and J 1", least.row(0, 0), 1);
        due(7, "row(0, 1), OUT and J 1", least.row(0, 1), 1);
        WalkRanks large = Graphs.withNodes(5);
        for (int v = 0; v < 5; v++) {
            large.jump(v, 2);
            large.weight(0, v, v == 4 ? 1 : 2);
        }
        large.keep(1, 4);
        // 1/4 of 2/9 and 3/4 of 1/5: 37 of 180
        due(8, "total(0)", large.total(0), 180);
        due(7, "row(0, 3)", large.row(0, 3), 37);
        due(7, "row(0, 4)", large.row(0, 4), 32);
    }

    private static void closedSets() {
        WalkRanks x = Graphs.byWeights(5, 0, 3, 1, 3, 0, 2, 1, 1, 1, 2, 4, 1, 4, 2, 1);
        int[] sets = {0, 1, 2, 0, 2};
        due(9, "closed()", x.closed(), 3);
        for (int v = 0; v < 5; v++) {
            due(10, "closedOf(" + v + ")", x.closedOf(v), sets[v]);
        }
        x.weight(3, 2, 1);
        int[] lessSets = {-3, 0, 1, -3, 1};
        due(9, "closed()", x.closed(), 2);
        for (int v = 0; v < 5; v++) {
            due(10, "closedOf(" + v + ")", x.closedOf(v), lessSets[v]);
        }
        due(10, "closedOf(5)", x.closedOf(5), -1);
        due(10, "closedOf(-1)", x.closedOf(-1), -1);
        due(10, "closedOf(LEAST)", x.closedOf(LEAST), -1);
        WalkRanks alone = Graphs.byWeights(5);
        due(9, "closed(), each by itself", alone.closed(), 5);
        due(10, "closedOf(4), each by itself", alone.closedOf(4), 4);
        alone.jump(3, 1);
        due(9, "closed(), all jump to 3", alone.closed(), 1);
        due(10, "closedOf(3), all jump to 3", alone.closedOf(3), 0);
        due(10, "closedOf(0), all jump to 3", alone.closedOf(0), -3);
    }

    private static void period() {
        WalkRanks round = Graphs.round(5);
        due(11, "period(0) of a round of 5", round.period(0), 5);
        round.weight(3, 0, 1);
        due(11, "period(0) of rounds of 5 and 4", round.period(0), 1);
        WalkRanks even = Graphs.round(4);
        due(11, "period(0) of a round of 4", even.period(0), 4);
        even.weight(2, 1, 1);
        due(11, "period(0) of rounds of 4 and 2", even.period(0), 2);
        even.weight(3, 3, 1);
        due(11, "period(0) with a way from 3 to 3", even.period(0), 1);
        WalkRanks three = Graphs.byWeights(3, 0, 1, 1, 1, 2, 1, 2, 0, 2);
        due(11, "period(0) of a round of 3", three.period(0), 3);
        due(11, "period(1)", three.period(1), -1);
        due(11, "period(-1)", three.period(-1), -1);
        due(11, "period(MOST)", three.period(MOST), -1);
        // from 0 no way back is shorter than 5 but that of 2; the round 2, 3, 4 is far from 0
        WalkRanks far = Graphs.byWeights(5, 0, 1, 1, 1, 0, 1, 1, 2, 1, 2, 3, 1, 3, 4, 1, 4, 2, 1, 2, 1, 1);
        due(11, "period(0) of rounds of 2 and 3", far.period(0), 1);
        WalkRanks two = Graphs.byWeights(3, 0, 0, 1, 1, 2, 1, 2, 1, 1);
        due(11, "period(0) of two sets", two.period(0), 1);
        due(11, "period(1) of two sets", two.period(1), 2);
    }

    private static void rank() {
        WalkRanks x = Graphs.lineWithTurns();
        dueRank(x, 0, "1/8");
        dueRank(x, 1, "1/4");
        dueRank(x, 2, "1/4");
        dueRank(x, 3, "1/4");
        dueRank(x, 4, "1/8");
        due(12, "rank(5, 0)", x.rank(5, 0), -1);
        due(12, "rank(-1, 2)", x.rank(-1, 2), -1);
        due(12, "rank(0, 2)", x.rank(0, 2), -2);
        due(12, "rank(0, -1)", x.rank(0, -1), -2);
        WalkRanks outside = Graphs.byWeights(3, 0, 1, 1, 1, 2, 1, 2, 1, 2, 1, 1, 1);
        dueRank(outside, 0, "0/1");
        dueRank(outside, 1, "2/3");
        dueRank(outside, 2, "1/3");
        WalkRanks two = Graphs.byWeights(2);
        due(12, "rank(0, 0) of two sets", two.rank(0, 0), -3);
        due(12, "rank(0, 2) of two sets", two.rank(0, 2), -2);
        due(12, "rank(2, 0) of two sets", two.rank(2, 0), -1);
        WalkRanks jumps = Graphs.withNodes(3);
        jumps.jump(2, 2);
        dueRank(jumps, 0, "1/4");
        dueRank(jumps, 2, "1/2");
    }

    private static void place() {
        WalkRanks x = Graphs.lineWithTurns();
        int[] places = {1, 2, 3, 0, 4};
        for (int k = 0; k < 5; k++) {
            due(13, "place(" + k + ")", x.place(k), places[k]);
        }
        due(13, "place(5)", x.place(5), -1);
        due(13, "place(-1)", x.place(-1), -1);
        due(13, "place(LEAST)", x.place(LEAST), -1);
        WalkRanks outside = Graphs.byWeights(4, 0, 3, 1, 1, 3, 1, 3, 2, 1, 2, 3, 1, 2, 2, 1);
        int[] outsidePlaces = {2, 3, 0, 1};
        for (int k = 0; k < 4; k++) {
            due(13, "place(" + k + ")", outside.place(k), outsidePlaces[k]);
        }
        WalkRanks two = Graphs.byWeights(2);
        due(13, "place(1) of two sets", two.place(1), -3);
        due(13, "place(2) of two sets", two.place(2), -1);
    }

    private static void reach() {
        WalkRanks fair = Graphs.lineWithStops(1, 1);
        dueReach(fair, 1, 4, "1/4");
        dueReach(fair, 2, 4, "1/2");
        dueReach(fair, 3, 4, "3/4");
        dueReach(fair, 1, 3, "1/3");
        dueReach(fair, 2, 2, "1/1");
        dueReach(fair, 0, 4, "0/1");
        dueReach(fair, 4, 3, "0/1");
        WalkRanks upwards = Graphs.lineWithStops(1, 2);
        dueReach(upwards, 1, 4, "8/15");
        dueReach(upwards, 1, 0, "7/15");
        WalkRanks all = Graphs.withNodes(5);
        dueReach(all, 0, 4, "1/1");
        due(14, "reach(0, 5, 0)", fair.reach(0, 5, 0), -1);
        due(14, "reach(5, 0, 0)", fair.reach(5, 0, 0), -1);
        due(14, "reach(-1, 0, 2)", fair.reach(-1, 0, 2), -1);
        due(14, "reach(0, LEAST, 0)", fair.reach(0, LEAST, 0), -1);
        due(14, "reach(0, 0, 2)", fair.reach(0, 0, 2), -2);
        due(14, "reach(0, 4, -1)", fair.reach(0, 4, -1), -2);
    }

    private static void hit() {
        WalkRanks x = Graphs.lineWithTurns();
        dueHit(x, 0, 4, "16/1");
        dueHit(x, 1, 4, "15/1");
        dueHit(x, 2, 4, "12/1");
        dueHit(x, 3, 4, "7/1");
        dueHit(x, 4, 4, "0/1");
        dueHit(x, 0, 1, "1/1");
        WalkRanks jumps = Graphs.withNodes(3);
        jumps.jump(0, 2);
        jumps.jump(2, 2);
        dueHit(jumps, 1, 0, "5/2");
        dueHit(jumps, 0, 1, "5/1");
        WalkRanks stops = Graphs.lineWithStops(1, 1);
        dueHit(stops, 1, 0, "-3/-3");
        dueHit(stops, 0, 1, "-3/-3");
        dueHit(stops, 0, 0, "0/1");
        due(15, "hit(1, 0, 2)", stops.hit(1, 0, 2), -2);
        due(15, "hit(1, 0, -1)", stops.hit(1, 0, -1), -2);
        due(15, "hit(1, 5, 2)", stops.hit(1, 5, 2), -1);
        due(15, "hit(-1, 0, 0)", stops.hit(-1, 0, 0), -1);
        due(15, "hit(MOST, LEAST, 0)", stops.hit(MOST, LEAST, 0), -1);
        // behind 1 a walk may be lost, ahead of it not
        WalkRanks lost = Graphs.byWeights(3, 0, 0, 1, 0, 1, 2, 1, 2, 1);
        dueHit(lost, 0, 1, "3/2");
        dueHit(lost, 0, 2, "5/2");
        dueHit(lost, 1, 0, "-3/-3");
    }

    private static void back() {
        WalkRanks x = Graphs.lineWithTurns();
        dueBack(x, 0, "8/1");
        dueBack(x, 1, "4/1");
        WalkRanks two = Graphs.byWeights(5, 0, 1, 1, 0, 2, 1, 1, 3, 1, 3, 1, 1, 2, 4, 2, 4, 2, 1, 2, 2, 1);
        dueBack(two, 0, "-3/-3");
        dueBack(two, 1, "2/1");
        dueBack(two, 2, "5/3");
        dueBack(two, 4, "5/2");
        dueBack(Graphs.byWeights(1), 0, "1/1");
        due(16, "back(0, 2)", two.back(0, 2), -2);
        due(16, "back(1, -1)", two.back(1, -1), -2);
        due(16, "back(5, 2)", two.back(5, 2), -1);
        due(16, "back(-1, 0)", two.back(-1, 0), -1);
    }

    private static void end() {
        WalkRanks x = Graphs.lineWithStops(1, 1);
        dueEnd(x, 0, 0, "1/1");
        dueEnd(x, 0, 1, "0/1");
        dueEnd(x, 1, 0, "3/4");
        dueEnd(x, 1, 1, "1/4");
        dueEnd(x, 4, 1, "1/1");
        due(17, "end(1, 2, 0)", x.end(1, 2, 0), -1);
        due(17, "end(1, -1, 0)", x.end(1, -1, 0), -1);
        due(17, "end(1, MOST, 2)", x.end(1, MOST, 2), -1);
        due(17, "end(5, 0, 0)", x.end(5, 0, 0), -1);
        due(17, "end(1, 0, 2)", x.end(1, 0, 2), -2);
        due(17, "end(1, 0, -1)", x.end(1, 0, -1), -2);
        // one of the two sets has two nodes and is entered at both
        WalkRanks wide = Graphs.byWeights(4, 0, 1, 1, 0, 2, 1, 0, 3, 2, 0, 0, 1, 1, 2, 1, 2, 1, 1, 3, 3, 1);
        dueEnd(wide, 0, 0, "1/2");
        dueEnd(wide, 0, 1, "1/2");
        dueEnd(wide, 2, 0, "1/1");
    }

    private static void after() {
        WalkRanks x = Graphs.lineWithStops(1, 2);
        dueAfter(x, 2, 2, 0, "1/1");
        dueAfter(x, 2, 3, 0, "0/1");
        dueAfter(x, 2, 3, 1, "2/3");
        dueAfter(x, 2, 2, 2, "4/9");
        dueAfter(x, 2, 0, 2, "1/9");
        dueAfter(x, 2, 3, 3, "8/27");
        dueAfter(x, 1, 0, 3, "11/27");
        due(18, "after(2, 2, 4, 0)", x.after(2, 2, 4, 0), -2);
        due(18, "after(2, 2, -1, 0)", x.after(2, 2, -1, 0), -2);
        due(18, "after(2, 2, 0, 2)", x.after(2, 2, 0, 2), -2);
        due(18, "after(2, 2, MOST, -1)", x.after(2, 2, MOST, -1), -2);
        due(18, "after(5, 2, 4, 0)", x.after(5, 2, 4, 0), -1);
        due(18, "after(2, -1, 0, 2)", x.after(2, -1, 0, 2), -1);
        WalkRanks jumps = Graphs.withNodes(4);
        dueAfter(jumps, 0, 3, 3, "1/4");
        WalkRanks halves = Graphs.byWeights(2, 0, 0, 1, 0, 1, 1, 1, 1, 2);
        dueAfter(halves, 0, 0, 3, "1/8");
        dueAfter(halves, 0, 1, 3, "7/8");
    }

    private static void walks() {
        WalkRanks x = Graphs.withNodes(2);
        x.weight(0, 0, 1);
        x.weight(0, 1, 1);
        x.weight(1, 0, 1);
        int[] counts = {1, 1, 2, 3, 5, 8, 13, 21, 34, 55, 89, 144, 233};
        for (int k = 0; k <= 12; k++) {
            due(19, "walks(0, 0, " + k + ")", x.walks(0, 0, k), counts[k]);
        }
        due(19, "walks(0, 1, 0)", x.walks(0, 1, 0), 0);
        x.keep(0, 1);
        x.weight(0, 1, 2);
        due(19, "walks(0, 1, 1)", x.walks(0, 1, 1), 2);
        due(19, "walks(1, 0, 1)", x.walks(1, 0, 1), 1);
        due(19, "walks(0, 0, 13)", x.walks(0, 0, 13), -2);
        due(19, "walks(0, 0, -1)", x.walks(0, 0, -1), -2);
        due(19, "walks(0, 2, 13)", x.walks(0, 2, 13), -1);
        due(19, "walks(-1, 0, 0)", x.walks(-1, 0, 0), -1);
        due(19, "walks(0, 4, 12)", Graphs.full().walks(0, 4, 12), 200_000_000_000L);
    }

    private static void drawn() {
        WalkRanks x = Graphs.withNodes(5);
        // the seed 0 becomes 1013904223, half of it is 506952111
        due(20, "drawn(3, 0, 0)", x.drawn(3, 0, 0), 3);
        due(20, "drawn(3, 0, 1)", x.drawn(3, 0, 1), 1);
        // then 1196435762, half of it is 598217881; then 3519870697 (below zero as an int), half of it is 1759935348
        due(20, "drawn(3, 0, 2)", x.drawn(3, 0, 2), 1);
        due(20, "drawn(3, 0, 3)", x.drawn(3, 0, 3), 3);
        // the seed 1000 becomes 2678429223, below zero as an int; half of it is 1339214611
        x.jump(0, 2);
        due(20, "drawn(3, 1000, 1)", x.drawn(3, 1000, 1), 0);
        x.jump(2, 0);
        due(20, "drawn(3, 1000, 1)", x.drawn(3, 1000, 1), 0);
        x.jump(0, 1);
        due(20, "drawn(3, 1000, 1)", x.drawn(3, 1000, 1), 4);
        due(20, "drawn(3, 0, 201)", x.drawn(3, 0, 201), -2);
        due(20, "drawn(3, 0, -1)", x.drawn(3, 0, -1), -2);
        due(20, "drawn(5, 0, 201)", x.drawn(5, 0, 201), -1);
        due(20, "drawn(-1, 0, 1)", x.drawn(-1, 0, 1), -1);
        WalkRanks round = Graphs.round(3);
        due(20, "drawn(0, LEAST, 200)", round.drawn(0, LEAST, 200), 2);
        due(20, "drawn(0, MOST, 199)", round.drawn(0, MOST, 199), 1);
    }

    private static void refusalsChangeNothing() {
        WalkRanks x = Graphs.withNodes(5);
        x.weight(0, 1, 2);
        x.jump(1, 2);
        x.keep(1, 2);
        int before = x.total(0);
        x.node();
        x.weight(0, 1, 3);
        x.weight(0, 5, 1);
        x.jump(1, -1);
        x.jump(-1, 1);
        x.keep(3, 2);
        x.keep(1, 5);
        due(2, "total(0)", x.total(0), before);
        due(3, "weight(0, 1, 2)", x.weight(0, 1, 2), 2);
        due(4, "jump(1, 2)", x.jump(1, 2), 2);
        due(5, "row(0, 1): 1/2 and 1/2 of 2/6", x.row(0, 1), 8);
        due(6, "clear()", x.clear(), 5);
    }

    /** Call by call what README.md shows under "Use". */
    private static void exampleOfReadme() {
        WalkRanks x = new WalkRanks();
        due(2, "node()", x.node(), 0);
        due(2, "node()", x.node(), 1);
        due(3, "weight(0, 1, 2)", x.weight(0, 1, 2), 0);
        due(3, "weight(1, 0, 1)", x.weight(1, 0, 1), 0);
        due(3, "weight(1, 1, 1)", x.weight(1, 1, 1), 0);
        due(5, "keep(3, 4)", x.keep(3, 4), 1);
        due(7, "row(0, 1)", x.row(0, 1), 7);
        due(8, "total(0)", x.total(0), 8);
        dueRank(x, 0, "4/11");
        due(13, "place(0)", x.place(0), 1);
        dueHit(x, 0, 1, "8/7");
        due(20, "drawn(0, 42, 10)", x.drawn(0, 42, 10), 1);
        due(12, "rank(2, 0)", x.rank(2, 0), -1);
    }
}

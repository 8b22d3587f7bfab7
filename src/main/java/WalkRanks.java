/**
 * Walks by chance on a graph of at most five nodes, told exactly.
 *
 * Sets of nodes are held as bits of an int. Rows and matrices are made once,
 * with the object, so that no call makes anything.
 */
public final class WalkRanks {
    private static final int MOST_NODES = 5;
    private static final int MOST_WEIGHT = 2;
    private static final int MOST_KEEP_BELOW = 4;
    private static final int MOST_STEPS_AFTER = 3;
    private static final int MOST_STEPS_WALKS = 12;
    private static final int MOST_STEPS_DRAWN = 200;

    private static final int NO_SUCH = -1;
    private static final int OUT_OF_BOUNDS = -2;
    private static final int NONE = -3;
    private static final int NO_ROOM = -4;

    private static final int NO_NODES = 0;

    /** Euclid's way with longs never takes more rounds than this. */
    private static final int MOST_DIVISIONS = 100;

    private final Graph graph = new Graph();
    private final Steps steps = new Steps();
    private final ClosedSets sets = new ClosedSets();
    private final Equations equations = new Equations();
    private final Spread spread = new Spread();
    private final long[] shares = new long[MOST_NODES];

    public WalkRanks() {
    }

    public int node() {
        if (graph.size >= MOST_NODES) {
            return NO_ROOM;
        }
        int added = graph.addNode();
        renew();
        return added;
    }

    public int weight(int u, int v, int w) {
        if (!isNode(u) || !isNode(v)) {
            return NO_SUCH;
        }
        if (w < 0 || w > MOST_WEIGHT) {
            return OUT_OF_BOUNDS;
        }
        int before = graph.weights[u][v];
        graph.weights[u][v] = w;
        renew();
        return before;
    }

    public int jump(int v, int w) {
        if (!isNode(v)) {
            return NO_SUCH;
        }
        if (w < 0 || w > MOST_WEIGHT) {
            return OUT_OF_BOUNDS;
        }
        int before = graph.jumps[v];
        graph.jumps[v] = w;
        renew();
        return before;
    }

    public int keep(int x, int y) {
        if (y < 1 || y > MOST_KEEP_BELOW || x < 0 || x > y) {
            return OUT_OF_BOUNDS;
        }
        graph.keepAbove = x;
        graph.keepBelow = y;
        renew();
        return 1;
    }

    public int clear() {
        int before = graph.size;
        graph.size = 0;
        renew();
        return before;
    }

    // ---- steps

    public int row(int u, int v) {
        if (!isNode(u) || !isNode(v)) {
            return NO_SUCH;
        }
        return steps.parts[u][v];
    }

    public int total(int u) {
        if (!isNode(u)) {
            return NO_SUCH;
        }
        return steps.totals[u];
    }

    // ---- closed sets, ranks

    public int closed() {
        return sets.number;
    }

    public int closedOf(int v) {
        if (!isNode(v)) {
            return NO_SUCH;
        }
        return sets.setOf[v];
    }

    public int period(int set) {
        if (!isSet(set)) {
            return NO_SUCH;
        }
        return steps.periodAt(sets.leastNodes[set]);
    }

    public long rank(int v, int part) {
        if (!isNode(v)) {
            return NO_SUCH;
        }
        if (!isPart(part)) {
            return OUT_OF_BOUNDS;
        }
        if (sets.number != 1) {
            return NONE;
        }
        long sum = fillShares(sets.members[0]);
        return fraction(shares[v], sum, part);
    }

    public int place(int k) {
        if (!isNode(k)) { // there are as many places as nodes
            return NO_SUCH;
        }
        if (sets.number != 1) {
            return NONE;
        }
        fillShares(sets.members[0]);
        for (int v = 0; v < graph.size; v++) {
            if (nodesAhead(v) == k) {
                return v;
            }
        }
        return NO_SUCH;
    }

    // ---- where walks come to

    public long reach(int u, int v, int part) {
        if (!isNode(u) || !isNode(v)) {
            return NO_SUCH;
        }
        if (!isPart(part)) {
            return OUT_OF_BOUNDS;
        }
        return chanceToCome(u, only(v), part);
    }

    public long hit(int u, int v, int part) {
        if (!isNode(u) || !isNode(v)) {
            return NO_SUCH;
        }
        if (!isPart(part)) {
            return OUT_OF_BOUNDS;
        }
        if (u == v) {
            return fraction(0, 1, part);
        }
        int aheadOfGoal = steps.nodesBehind(u, only(v));
        // the chance is 1 just if the walk can't get lost on its way to v
        if ((aheadOfGoal & ~sets.leadingTo(only(v))) != NO_NODES) {
            return NONE;
        }
        equations.fill(steps, aheadOfGoal);
        long below = equations.determinant();
        equations.putStepCounts(steps, aheadOfGoal, u);
        return fraction(equations.determinant(), below, part);
    }

    public long back(int v, int part) {
        if (!isNode(v)) {
            return NO_SUCH;
        }
        if (!isPart(part)) {
            return OUT_OF_BOUNDS;
        }
        if (!isSet(sets.setOf[v])) {
            return NONE;
        }
        // the way back is as long as the share of time at v is small
        long sum = fillShares(sets.members[sets.setOf[v]]);
        return fraction(sum, shares[v], part);
    }

    public long end(int u, int set, int part) {
        if (!isNode(u) || !isSet(set)) {
            return NO_SUCH;
        }
        if (!isPart(part)) {
            return OUT_OF_BOUNDS;
        }
        return chanceToCome(u, sets.members[set], part);
    }

    // ---- some steps

    public long after(int u, int v, int k, int part) {
        if (!isNode(u) || !isNode(v)) {
            return NO_SUCH;
        }
        if (k < 0 || k > MOST_STEPS_AFTER || !isPart(part)) {
            return OUT_OF_BOUNDS;
        }
        long unit = steps.commonTotal();
        spread.fillBySteps(steps, unit);
        spread.run(u, k);
        long below = 1;
        for (int i = 0; i < k; i++) {
            below *= unit;
        }
        return fraction(spread.numberAt(v), below, part);
    }

    public long walks(int u, int v, int k) {
        if (!isNode(u) || !isNode(v)) {
            return NO_SUCH;
        }
        if (k < 0 || k > MOST_STEPS_WALKS) {
            return OUT_OF_BOUNDS;
        }
        spread.fillByWeights(graph);
        spread.run(u, k);
        return spread.numberAt(v);
    }

    public int drawn(int u, int seed, int k) {
        if (!isNode(u)) {
            return NO_SUCH;
        }
        if (k < 0 || k > MOST_STEPS_DRAWN) {
            return OUT_OF_BOUNDS;
        }
        int at = u;
        int z = seed;
        for (int i = 0; i < k; i++) {
            z = z * 1664525 + 1013904223;
            at = steps.nextNode(at, z >>> 1);
        }
        return at;
    }

    private boolean isNode(int v) {
        return v >= 0 && v < graph.size;
    }

    private boolean isSet(int set) {
        return set >= 0 && set < sets.number;
    }

    private static boolean isPart(int part) {
        return part == 0 || part == 1;
    }

    /** Whatever follows from the graph is made anew with each change of it. */
    private void renew() {
        steps.renew(graph);
        sets.renew(steps);
    }

    /** For all nodes how much time a walk in a closed set spends there, by one measure; answers the sum. */
    private long fillShares(int members) {
        long sum = 0;
        for (int v = 0; v < graph.size; v++) {
            shares[v] = 0;
            if (has(members, v)) {
                equations.fill(steps, members & ~only(v));
                shares[v] = steps.totals[v] * equations.determinant();
            }
            sum += shares[v];
        }
        return sum;
    }

    private int nodesAhead(int v) {
        int ahead = 0;
        for (int other = 0; other < graph.size; other++) {
            if (shares[other] > shares[v] || (shares[other] == shares[v] && other < v)) {
                ahead++;
            }
        }
        return ahead;
    }

    private long chanceToCome(int u, int goal, int part) {
        if (has(goal, u)) {
            return fraction(1, 1, part);
        }
        // nodes that never lead to the goal stay out: with them the equations had many solutions
        int unsure = sets.leadingTo(goal) & ~goal;
        if (!has(unsure, u)) {
            return fraction(0, 1, part);
        }
        equations.fill(steps, unsure);
        long below = equations.determinant();
        equations.putChances(steps, unsure, goal, u);
        return fraction(equations.determinant(), below, part);
    }

    private static long fraction(long above, long below, int part) {
        long told = part == 0 ? above : below;
        long divisor = greatestDivisor(above, below);
        return divisor == 0 ? told : told / divisor;
    }

    private static long greatestDivisor(long a, long b) {
        long greater = a;
        long less = b;
        for (int i = 0; i < MOST_DIVISIONS && less != 0; i++) {
            long rest = greater % less;
            greater = less;
            less = rest;
        }
        return greater;
    }

    private static int only(int v) {
        return 1 << v;
    }

    private static boolean has(int nodes, int v) {
        return (nodes & only(v)) != NO_NODES;
    }

    /** What has been set: nodes, weights, jumps, keep. */
    private static final class Graph {
        int size = 0;
        int keepAbove = 1;
        int keepBelow = 1;
        final int[][] weights = new int[MOST_NODES][MOST_NODES];
        final int[] jumps = new int[MOST_NODES];

        /** The caller has seen that there is room. */
        int addNode() {
            int added = size;
            for (int v = 0; v <= added; v++) { // a node from before a clear may have left its own
                weights[added][v] = 0;
                weights[v][added] = 0;
            }
            jumps[added] = 1;
            size++;
            return added;
        }

        int outOf(int u) {
            int sum = 0;
            for (int v = 0; v < size; v++) {
                sum += weights[u][v];
            }
            return sum;
        }

        int allJumps() {
            int sum = 0;
            for (int v = 0; v < size; v++) {
                sum += jumps[v];
            }
            return sum;
        }
    }

    /** The chances of steps: parts[u][v] by totals[u], in least numbers. */
    private static final class Steps {
        int size = 0;
        final int[][] parts = new int[MOST_NODES][MOST_NODES];
        final int[] totals = new int[MOST_NODES];
        /** For each node those to which one step may lead. */
        private final int[] next = new int[MOST_NODES];

        void renew(Graph graph) {
            size = graph.size;
            int allJumps = graph.allJumps();
            for (int u = 0; u < size; u++) {
                fillParts(graph, u, allJumps);
                lowerParts(u);
                sumUp(u);
            }
        }

        private void fillParts(Graph graph, int u, int allJumps) {
            int out = graph.outOf(u);
            int byWeight = out > 0 ? 1 : 0;
            int byJump = out > 0 ? 0 : 1;
            if (out > 0 && allJumps > 0) {
                byWeight = graph.keepAbove * allJumps;
                byJump = (graph.keepBelow - graph.keepAbove) * out;
            }
            for (int v = 0; v < size; v++) {
                parts[u][v] = byWeight * graph.weights[u][v] + byJump * graph.jumps[v];
            }
            if (out == 0 && allJumps == 0) {
                parts[u][u] = 1;
            }
        }

        private void lowerParts(int u) {
            int divisor = 0;
            for (int v = 0; v < size; v++) {
                divisor = (int) greatestDivisor(divisor, parts[u][v]);
            }
            if (divisor == 0) {
                return;
            }
            for (int v = 0; v < size; v++) {
                parts[u][v] /= divisor;
            }
        }

        private void sumUp(int u) {
            totals[u] = 0;
            next[u] = NO_NODES;
            for (int v = 0; v < size; v++) {
                totals[u] += parts[u][v];
                if (parts[u][v] > 0) {
                    next[u] |= only(v);
                }
            }
        }

        /** The least number that all totals divide: 10080 at most, as OUT and J divide 2520, each total so y times 2520. */
        long commonTotal() {
            long common = 1;
            for (int u = 0; u < size; u++) {
                long divisor = greatestDivisor(common, totals[u]);
                if (divisor != 0) {
                    common = common / divisor * totals[u];
                }
            }
            return common;
        }

        /** The nodes to which one step from some of these may lead. */
        private int nextOf(int nodes) {
            int found = NO_NODES;
            for (int u = 0; u < size; u++) {
                if (has(nodes, u)) {
                    found |= next[u];
                }
            }
            return found;
        }

        /** The nodes at which a walk from u (u too) may be as long as it has not come to the avoided ones. */
        int nodesBehind(int u, int avoided) {
            int found = only(u);
            for (int i = 0; i < size; i++) {
                found |= nextOf(found) & ~avoided;
            }
            return found;
        }

        /**
         * The greatest number that divides all lengths of ways from v back to v. Each round of nodes in its
         * closed set has at most MOST_NODES steps, and the ways from v to it and back have fewer each:
         * ways of three times as many steps tell of all rounds.
         */
        int periodAt(int v) {
            int divisor = 0;
            int nodes = only(v);
            for (int length = 1; length <= 3 * MOST_NODES; length++) {
                nodes = nextOf(nodes);
                if (has(nodes, v)) {
                    divisor = (int) greatestDivisor(divisor, length);
                }
            }
            return divisor;
        }

        int nextNode(int u, int number) {
            if (totals[u] <= 0) {
                return u;
            }
            int rest = number % totals[u];
            for (int v = 0; v < size; v++) {
                if (rest < parts[u][v]) {
                    return v;
                }
                rest -= parts[u][v];
            }
            return u;
        }
    }

    /** The sets that are never left, by their least nodes. */
    private static final class ClosedSets {
        int number = 0;
        final int[] members = new int[MOST_NODES];
        final int[] leastNodes = new int[MOST_NODES];
        /** For each node its set, or NONE. */
        final int[] setOf = new int[MOST_NODES];
        private int size = 0;
        /** For each node those to which ways of some steps, or none, lead. */
        private final int[] leads = new int[MOST_NODES];

        void renew(Steps steps) {
            size = steps.size;
            number = 0;
            for (int v = 0; v < size; v++) {
                leads[v] = steps.nodesBehind(v, NO_NODES);
                setOf[v] = NONE;
            }
            for (int v = 0; v < size; v++) {
                if (setOf[v] == NONE && isClosedFrom(v)) {
                    addSet(v);
                }
            }
        }

        private boolean isClosedFrom(int v) {
            return (leads[v] & ~leadingTo(only(v))) == NO_NODES;
        }

        private void addSet(int least) {
            if (number >= MOST_NODES) {
                return;
            }
            members[number] = leads[least];
            leastNodes[number] = least;
            for (int v = 0; v < size; v++) {
                if (has(leads[least], v)) {
                    setOf[v] = number;
                }
            }
            number++;
        }

        /** The nodes from which ways lead to the goal, those of the goal too. */
        int leadingTo(int goal) {
            int found = NO_NODES;
            for (int u = 0; u < size; u++) {
                if ((leads[u] & goal) != NO_NODES) {
                    found |= only(u);
                }
            }
            return found;
        }
    }

    /**
     * Equations with an unknown number h for each of some nodes:
     * totals[u] * h[u] = what comes from outside + the sum of parts[u][v] * h[v].
     * A solution is one determinant by another (Cramer). They are expanded without any division, so
     * that only they themselves must fit a long: with totals up to 360 they stay far below 10^13.
     */
    private static final class Equations {
        private int size = 0;
        private final long[][] cells = new long[MOST_NODES][MOST_NODES];

        /** Other nodes than the unknown get lines of their own that leave the determinant as it is. */
        void fill(Steps steps, int unknown) {
            size = steps.size;
            for (int u = 0; u < size; u++) {
                for (int v = 0; v < size; v++) {
                    boolean inside = has(unknown, u) && has(unknown, v);
                    long diagonal = inside ? steps.totals[u] : 1;
                    long taken = inside ? steps.parts[u][v] : 0;
                    cells[u][v] = (u == v ? diagonal : 0) - taken;
                }
            }
        }

        /** For the chance to come from a node to the goal: a step right into the goal comes from outside. */
        void putChances(Steps steps, int unknown, int goal, int asked) {
            for (int u = 0; u < size; u++) {
                cells[u][asked] = 0;
                for (int v = 0; v < size; v++) {
                    if (has(unknown, u) && has(goal, v)) {
                        cells[u][asked] += steps.parts[u][v];
                    }
                }
            }
        }

        /** For how many steps it takes from a node: each step counts 1. */
        void putStepCounts(Steps steps, int unknown, int asked) {
            for (int u = 0; u < size; u++) {
                cells[u][asked] = has(unknown, u) ? steps.totals[u] : 0;
            }
        }

        /** Behind fill what stands below in all solutions, behind a put too what stands above in the asked one. */
        long determinant() {
            return expand(cells, size, 0, NO_NODES);
        }

        /** Of the lines from the given one on, without the used columns; as deep as there are lines. */
        private static long expand(long[][] cells, int size, int line, int used) {
            if (line >= size) {
                return 1;
            }
            long sum = 0;
            long sign = 1;
            for (int column = 0; column < size; column++) {
                if (has(used, column)) {
                    continue;
                }
                long cell = cells[line][column];
                if (cell != 0) {
                    sum += sign * cell * expand(cells, size, line + 1, used | only(column));
                }
                sign = -sign;
            }
            return sum;
        }
    }

    /** A row of numbers, one a node, that some steps spread from node to node. */
    private static final class Spread {
        private long[] now = new long[MOST_NODES];
        private long[] next = new long[MOST_NODES];
        private int size = 0;
        private final long[][] factors = new long[MOST_NODES][MOST_NODES];

        void fillByWeights(Graph graph) {
            size = graph.size;
            for (int u = 0; u < size; u++) {
                for (int v = 0; v < size; v++) {
                    factors[u][v] = graph.weights[u][v];
                }
            }
        }

        /** Chances as whole numbers: each is told in parts of the unit. */
        void fillBySteps(Steps steps, long unit) {
            size = steps.size;
            for (int u = 0; u < size; u++) {
                long scale = steps.totals[u] > 0 ? unit / steps.totals[u] : 0;
                for (int v = 0; v < size; v++) {
                    factors[u][v] = scale * steps.parts[u][v];
                }
            }
        }

        void run(int from, int stepCount) {
            for (int v = 0; v < size; v++) {
                now[v] = v == from ? 1 : 0;
            }
            for (int i = 0; i < stepCount; i++) {
                move();
            }
        }

        long numberAt(int v) {
            return now[v];
        }

        private void move() {
            for (int v = 0; v < size; v++) {
                next[v] = 0;
                for (int u = 0; u < size; u++) {
                    next[v] += now[u] * factors[u][v];
                }
            }
            long[] before = now;
            now = next;
            next = before;
        }
    }
}

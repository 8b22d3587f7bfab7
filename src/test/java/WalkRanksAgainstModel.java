import java.math.BigInteger;
import java.util.ArrayList;
import java.util.List;
import java.util.Random;

/**
 * Long runs of calls by chance (from fixed seeds), wrong inputs among them, and all graphs of one and of
 * two nodes, each answer held against a slow model that follows the document's words with BigInteger
 * fractions and in other ways than the class.
 */
public final class WalkRanksAgainstModel {
    private static final int RUNS = 1000;
    private static final int CALLS = 512;

    public static void main(String[] args) {
        for (int run = 0; run < RUNS; run++) {
            runOfCalls(run);
        }
        for (int run = 0; run < RUNS; run++) {
            allAnswersOfOneGraph(run);
        }
        allGraphsOf(1);
        allGraphsOf(2);
        Due.finish();
    }

    private static void due(int run, String call, long got, long want) {
        Due.answer("run " + run, call, got, want);
    }

    private static void runOfCalls(int run) {
        Random random = new Random(run);
        WalkRanks x = new WalkRanks();
        Model model = new Model();
        int changes = 1 + random.nextInt(4);
        for (int i = 0; i < CALLS; i++) {
            int kind = random.nextInt(5) < changes ? random.nextInt(6) : 6 + random.nextInt(14);
            if (kind == 4 && random.nextInt(20) != 0) {
                kind = 1;
            }
            int[] a = new int[4];
            for (int j = 0; j < a.length; j++) {
                a[j] = number(random);
            }
            compare(run, x, model, kind, a);
        }
    }

    private static int number(Random random) {
        int kind = random.nextInt(100);
        if (kind < 88) {
            return random.nextInt(5);
        }
        if (kind < 94) {
            return random.nextInt(2);
        }
        if (kind < 96) {
            return random.nextInt(16) - 2;
        }
        if (kind < 98) {
            return random.nextInt(206) - 2;
        }
        int[] far = {Integer.MIN_VALUE, Integer.MAX_VALUE, -1, 5, 32, 33, -32, random.nextInt()};
        return far[random.nextInt(far.length)];
    }

    private static void compare(int run, WalkRanks x, Model m, int kind, int[] a) {
        String args = "(" + a[0] + ", " + a[1] + ", " + a[2] + ", " + a[3] + ")";
        switch (kind) {
            case 0 -> due(run, "node", x.node(), m.node());
            case 1, 5 -> due(run, "weight" + args, x.weight(a[0], a[1], a[2]), m.weight(a[0], a[1], a[2]));
            case 2 -> due(run, "jump" + args, x.jump(a[0], a[1]), m.jump(a[0], a[1]));
            case 3 -> due(run, "keep" + args, x.keep(a[0], a[1]), m.keep(a[0], a[1]));
            case 4 -> due(run, "clear", x.clear(), m.clear());
            case 6 -> due(run, "row" + args, x.row(a[0], a[1]), m.row(a[0], a[1]));
            case 7 -> due(run, "total" + args, x.total(a[0]), m.total(a[0]));
            case 8 -> due(run, "closed", x.closed(), m.closedSets().size());
            case 9 -> due(run, "closedOf" + args, x.closedOf(a[0]), m.closedOf(a[0]));
            case 10 -> due(run, "period" + args, x.period(a[0]), m.period(a[0]));
            case 11 -> due(run, "rank" + args, x.rank(a[0], a[1]), m.rank(a[0], a[1]));
            case 12 -> due(run, "place" + args, x.place(a[0]), m.place(a[0]));
            case 13 -> due(run, "reach" + args, x.reach(a[0], a[1], a[2]), m.reach(a[0], a[1], a[2]));
            case 14 -> due(run, "hit" + args, x.hit(a[0], a[1], a[2]), m.hit(a[0], a[1], a[2]));
            case 15 -> due(run, "back" + args, x.back(a[0], a[1]), m.back(a[0], a[1]));
            case 16 -> due(run, "end" + args, x.end(a[0], a[1], a[2]), m.end(a[0], a[1], a[2]));
            case 17 -> due(run, "after" + args, x.after(a[0], a[1], a[2], a[3]), m.after(a[0], a[1], a[2], a[3]));
            case 18 -> due(run, "walks" + args, x.walks(a[0], a[1], a[2]), m.walks(a[0], a[1], a[2]));
            case 19 -> due(run, "drawn" + args, x.drawn(a[0], a[1], a[2]), m.drawn(a[0], a[1], a[2]));
            default -> throw new IllegalStateException("no call of kind " + kind);
        }
    }

    /** Sparse, middling and full graphs in turn, so that sets of many shapes and large totals come up. */
    private static void allAnswersOfOneGraph(int run) {
        Random random = new Random(1_000_000L + run);
        WalkRanks x = new WalkRanks();
        Model m = new Model();
        int count = 1 + random.nextInt(5);
        boolean jumps = random.nextBoolean();
        int density = 1 + random.nextInt(9);
        for (int v = 0; v < count; v++) {
            compare(run, x, m, 0, new int[4]);
        }
        for (int u = 0; u < count; u++) {
            compare(run, x, m, 2, new int[] {u, jumps ? random.nextInt(3) : 0, 0, 0});
            for (int v = 0; v < count; v++) {
                int w = random.nextInt(9) < density ? 1 + random.nextInt(2) : 0;
                compare(run, x, m, 1, new int[] {u, v, w, 0});
            }
        }
        int below = 1 + random.nextInt(4);
        compare(run, x, m, 3, new int[] {random.nextInt(below + 1), below, 0, 0});
        for (int u = 0; u < count; u++) {
            allAnswersOfOneNode(run, x, m, u, count, random);
        }
    }

    /** Each WEIGHT, each JUMP and each KEEP that may be; few enough as long as there are one or two nodes. */
    private static void allGraphsOf(int count) {
        int graphs = 1;
        for (int i = 0; i < count * count + count; i++) {
            graphs *= 3;
        }
        for (int below = 1; below <= 4; below++) {
            for (int above = 0; above <= below; above++) {
                for (int graph = 0; graph < graphs; graph++) {
                    graphByDigits(graph, count, above, below);
                }
            }
        }
    }

    /** A graph's number, written by threes, has its jumps and weights as digits. */
    private static void graphByDigits(int graph, int count, int above, int below) {
        Random random = new Random(2_000_000L + graph);
        WalkRanks x = new WalkRanks();
        Model m = new Model();
        compare(graph, x, m, 3, new int[] {above, below, 0, 0});
        for (int v = 0; v < count; v++) {
            compare(graph, x, m, 0, new int[4]);
        }
        int digits = graph;
        for (int u = 0; u < count; u++) {
            compare(graph, x, m, 2, new int[] {u, digits % 3, 0, 0});
            digits /= 3;
            for (int v = 0; v < count; v++) {
                compare(graph, x, m, 1, new int[] {u, v, digits % 3, 0});
                digits /= 3;
            }
        }
        for (int u = 0; u < count; u++) {
            allAnswersOfOneNode(graph, x, m, u, count, random);
        }
    }

    private static void allAnswersOfOneNode(int run, WalkRanks x, Model m, int u, int count, Random random) {
        for (int kind : new int[] {7, 8, 9, 10, 12}) {
            compare(run, x, m, kind, new int[] {u, 0, 0, 0});
        }
        compare(run, x, m, 19, new int[] {u, random.nextInt(), random.nextInt(201), 0});
        for (int v = 0; v < count; v++) {
            compare(run, x, m, 6, new int[] {u, v, 0, 0});
            compare(run, x, m, 18, new int[] {u, v, random.nextInt(13), 0});
            for (int part = 0; part <= 1; part++) {
                compare(run, x, m, 11, new int[] {v, part, 0, 0});
                compare(run, x, m, 13, new int[] {u, v, part, 0});
                compare(run, x, m, 14, new int[] {u, v, part, 0});
                compare(run, x, m, 15, new int[] {v, part, 0, 0});
                compare(run, x, m, 16, new int[] {u, v, part, 0});
                compare(run, x, m, 17, new int[] {u, v, random.nextInt(4), part});
            }
        }
    }

    private record Fraction(BigInteger above, BigInteger below) {
        static final Fraction ZERO = of(0, 1);
        static final Fraction ONE = of(1, 1);

        static Fraction of(long above, long below) {
            return lowest(BigInteger.valueOf(above), BigInteger.valueOf(below));
        }

        static Fraction lowest(BigInteger above, BigInteger below) {
            BigInteger divisor = above.gcd(below);
            if (below.signum() < 0) {
                divisor = divisor.negate();
            }
            return new Fraction(above.divide(divisor), below.divide(divisor));
        }

        Fraction plus(Fraction o) {
            return lowest(above.multiply(o.below).add(o.above.multiply(below)), below.multiply(o.below));
        }

        Fraction minus(Fraction o) {
            return plus(new Fraction(o.above.negate(), o.below));
        }

        Fraction times(Fraction o) {
            return lowest(above.multiply(o.above), below.multiply(o.below));
        }

        Fraction by(Fraction o) {
            return lowest(above.multiply(o.below), below.multiply(o.above));
        }

        boolean isZero() {
            return above.signum() == 0;
        }

        int against(Fraction o) {
            return above.multiply(o.below).compareTo(o.above.multiply(below));
        }

        long part(int part) {
            return (part == 0 ? above : below).longValueExact();
        }
    }

    private static final class Model {
        private int x = 1;
        private int y = 1;
        private final List<int[]> weights = new ArrayList<>();
        private final List<Integer> jumps = new ArrayList<>();
        /** Kept till the next change, as to make it anew for each call is slow. */
        private Fraction[][] chances = null;

        int node() {
            if (jumps.size() == 5) {
                return -4;
            }
            chances = null;
            jumps.add(1);
            weights.add(new int[5]);
            return jumps.size() - 1;
        }

        int weight(int u, int v, int w) {
            if (isNone(u) || isNone(v)) {
                return -1;
            }
            if (w < 0 || w > 2) {
                return -2;
            }
            chances = null;
            int before = weights.get(u)[v];
            weights.get(u)[v] = w;
            return before;
        }

        int jump(int v, int w) {
            if (isNone(v)) {
                return -1;
            }
            if (w < 0 || w > 2) {
                return -2;
            }
            chances = null;
            return jumps.set(v, w);
        }

        int keep(int above, int below) {
            if (below < 1 || below > 4 || above < 0 || above > below) {
                return -2;
            }
            chances = null;
            x = above;
            y = below;
            return 1;
        }

        int clear() {
            int before = jumps.size();
            chances = null;
            jumps.clear();
            weights.clear();
            return before;
        }

        private boolean isNone(int v) {
            return v < 0 || v >= jumps.size();
        }

        private Fraction[][] chances() {
            if (chances == null) {
                int n = jumps.size();
                chances = new Fraction[n][n];
                for (int u = 0; u < n; u++) {
                    for (int v = 0; v < n; v++) {
                        chances[u][v] = chanceOfStep(u, v);
                    }
                }
            }
            return chances;
        }

        private Fraction chanceOfStep(int u, int v) {
            int out = 0;
            int all = 0;
            for (int i = 0; i < jumps.size(); i++) {
                out += weights.get(u)[i];
                all += jumps.get(i);
            }
            if (out > 0 && all > 0) {
                Fraction byWeight = Fraction.of(x, y).times(Fraction.of(weights.get(u)[v], out));
                return byWeight.plus(Fraction.of(y - x, y).times(Fraction.of(jumps.get(v), all)));
            }
            if (out > 0) {
                return Fraction.of(weights.get(u)[v], out);
            }
            if (all > 0) {
                return Fraction.of(jumps.get(v), all);
            }
            return u == v ? Fraction.ONE : Fraction.ZERO;
        }

        long total(int u) {
            if (isNone(u)) {
                return -1;
            }
            BigInteger common = BigInteger.ONE;
            for (Fraction chance : chances()[u]) {
                common = common.multiply(chance.below()).divide(common.gcd(chance.below()));
            }
            return common.longValueExact();
        }

        long row(int u, int v) {
            if (isNone(u) || isNone(v)) {
                return -1;
            }
            return chances()[u][v].times(Fraction.of(total(u), 1)).part(0);
        }

        private boolean[][] leads() {
            int n = jumps.size();
            boolean[][] leads = new boolean[n][n];
            for (int u = 0; u < n; u++) {
                for (int v = 0; v < n; v++) {
                    leads[u][v] = u == v || !chances()[u][v].isZero();
                }
            }
            for (int m = 0; m < n; m++) {
                for (int u = 0; u < n; u++) {
                    for (int v = 0; v < n; v++) {
                        leads[u][v] |= leads[u][m] && leads[m][v];
                    }
                }
            }
            return leads;
        }

        /** All subsets are tried by the definition, then put in the order of their least nodes. */
        List<List<Integer>> closedSets() {
            int n = jumps.size();
            boolean[][] leads = leads();
            List<List<Integer>> found = new ArrayList<>();
            for (int bits = 1; bits < 1 << n; bits++) {
                List<Integer> set = new ArrayList<>();
                for (int v = 0; v < n; v++) {
                    if ((bits >> v & 1) == 1) {
                        set.add(v);
                    }
                }
                if (isClosed(set, leads)) {
                    found.add(set);
                }
            }
            found.sort((a, b) -> Integer.compare(a.get(0), b.get(0)));
            return found;
        }

        private boolean isClosed(List<Integer> set, boolean[][] leads) {
            for (int u : set) {
                for (int v = 0; v < jumps.size(); v++) {
                    if (leads[u][v] != set.contains(v)) {
                        return false;
                    }
                }
            }
            return true;
        }

        int closedOf(int v) {
            if (isNone(v)) {
                return -1;
            }
            List<List<Integer>> sets = closedSets();
            for (int i = 0; i < sets.size(); i++) {
                if (sets.get(i).contains(v)) {
                    return i;
                }
            }
            return -3;
        }

        /** By the last node of the set and by very long ways. */
        int period(int set) {
            List<List<Integer>> sets = closedSets();
            if (set < 0 || set >= sets.size()) {
                return -1;
            }
            int start = sets.get(set).get(sets.get(set).size() - 1);
            int n = jumps.size();
            boolean[] at = new boolean[n];
            at[start] = true;
            BigInteger divisor = BigInteger.ZERO;
            for (int length = 1; length <= 60; length++) {
                boolean[] next = new boolean[n];
                for (int u = 0; u < n; u++) {
                    for (int v = 0; v < n; v++) {
                        next[v] |= at[u] && !chances()[u][v].isZero();
                    }
                }
                at = next;
                if (at[start]) {
                    divisor = divisor.gcd(BigInteger.valueOf(length));
                }
            }
            return divisor.intValueExact();
        }

        /** The share of time at each node of a set: balance at all but one, and the sum is 1. */
        private Fraction[] ranksIn(List<Integer> set) {
            int n = jumps.size();
            Fraction[][] lines = new Fraction[n][n + 1];
            for (int v = 0; v < n; v++) {
                for (int u = 0; u < n; u++) {
                    boolean inside = set.contains(u) && set.contains(v);
                    Fraction self = u == v ? Fraction.ONE : Fraction.ZERO;
                    lines[v][u] = inside ? self.minus(chances()[u][v]) : self;
                    if (v == set.get(0)) {
                        lines[v][u] = set.contains(u) ? Fraction.ONE : Fraction.ZERO;
                    }
                }
                lines[v][n] = v == set.get(0) ? Fraction.ONE : Fraction.ZERO;
            }
            return solved(lines);
        }

        private static Fraction[] solved(Fraction[][] lines) {
            int n = lines.length;
            for (int k = 0; k < n; k++) {
                int pivot = k;
                while (lines[pivot][k].isZero()) {
                    pivot++;
                }
                Fraction[] line = lines[pivot];
                lines[pivot] = lines[k];
                lines[k] = line;
                for (int i = 0; i < n; i++) {
                    Fraction factor = lines[i][k].by(line[k]);
                    for (int j = k; i != k && j <= n; j++) {
                        lines[i][j] = lines[i][j].minus(factor.times(line[j]));
                    }
                }
            }
            Fraction[] solution = new Fraction[n];
            for (int i = 0; i < n; i++) {
                solution[i] = lines[i][n].by(lines[i][i]);
            }
            return solution;
        }

        long rank(int v, int part) {
            if (isNone(v)) {
                return -1;
            }
            if (part < 0 || part > 1) {
                return -2;
            }
            List<List<Integer>> sets = closedSets();
            return sets.size() != 1 ? -3 : ranksIn(sets.get(0))[v].part(part);
        }

        int place(int k) {
            if (isNone(k)) {
                return -1;
            }
            List<List<Integer>> sets = closedSets();
            if (sets.size() != 1) {
                return -3;
            }
            Fraction[] ranks = ranksIn(sets.get(0));
            List<Integer> order = new ArrayList<>();
            for (int v = 0; v < ranks.length; v++) {
                order.add(v);
            }
            order.sort((a, b) -> ranks[b].against(ranks[a]) != 0 ? ranks[b].against(ranks[a]) : Integer.compare(a, b));
            return order.get(k);
        }

        /** From all nodes: 1 in the goal, 0 where no way leads there, else the mean of what follows. */
        private Fraction[] chancesToCome(List<Integer> goal) {
            int n = jumps.size();
            boolean[][] leads = leads();
            Fraction[][] lines = new Fraction[n][n + 1];
            for (int u = 0; u < n; u++) {
                final int from = u;
                boolean in = goal.contains(u);
                boolean never = goal.stream().noneMatch(v -> leads[from][v]);
                for (int v = 0; v < n; v++) {
                    Fraction self = u == v ? Fraction.ONE : Fraction.ZERO;
                    lines[u][v] = in || never ? self : self.minus(chances()[u][v]);
                }
                lines[u][n] = in ? Fraction.ONE : Fraction.ZERO;
            }
            return solved(lines);
        }

        long reach(int u, int v, int part) {
            if (isNone(u) || isNone(v)) {
                return -1;
            }
            if (part < 0 || part > 1) {
                return -2;
            }
            return chancesToCome(List.of(v))[u].part(part);
        }

        long end(int u, int set, int part) {
            List<List<Integer>> sets = closedSets();
            if (isNone(u) || set < 0 || set >= sets.size()) {
                return -1;
            }
            if (part < 0 || part > 1) {
                return -2;
            }
            return chancesToCome(sets.get(set))[u].part(part);
        }

        /** From all nodes from which a walk surely comes to v, 0 for the others. */
        private Fraction[] stepsTill(int v) {
            int n = jumps.size();
            Fraction[] sure = chancesToCome(List.of(v));
            Fraction[][] lines = new Fraction[n][n + 1];
            for (int u = 0; u < n; u++) {
                boolean asked = u != v && sure[u].against(Fraction.ONE) == 0;
                for (int w = 0; w < n; w++) {
                    Fraction self = u == w ? Fraction.ONE : Fraction.ZERO;
                    lines[u][w] = asked ? self.minus(chances()[u][w]) : self;
                }
                lines[u][n] = asked ? Fraction.ONE : Fraction.ZERO;
            }
            return solved(lines);
        }

        long hit(int u, int v, int part) {
            if (isNone(u) || isNone(v)) {
                return -1;
            }
            if (part < 0 || part > 1) {
                return -2;
            }
            if (chancesToCome(List.of(v))[u].against(Fraction.ONE) != 0) {
                return -3;
            }
            return stepsTill(v)[u].part(part);
        }

        long back(int v, int part) {
            if (isNone(v)) {
                return -1;
            }
            if (part < 0 || part > 1) {
                return -2;
            }
            if (closedOf(v) < 0) {
                return -3;
            }
            Fraction[] till = stepsTill(v);
            Fraction sum = Fraction.ONE;
            for (int w = 0; w < till.length; w++) {
                sum = sum.plus(chances()[v][w].times(till[w]));
            }
            return sum.part(part);
        }

        long after(int u, int v, int k, int part) {
            if (isNone(u) || isNone(v)) {
                return -1;
            }
            if (k < 0 || k > 3 || part < 0 || part > 1) {
                return -2;
            }
            return chanceBehind(u, v, k).part(part);
        }

        private Fraction chanceBehind(int u, int v, int k) {
            if (k == 0) {
                return u == v ? Fraction.ONE : Fraction.ZERO;
            }
            Fraction sum = Fraction.ZERO;
            for (int w = 0; w < jumps.size(); w++) {
                if (!chances()[u][w].isZero()) {
                    sum = sum.plus(chances()[u][w].times(chanceBehind(w, v, k - 1)));
                }
            }
            return sum;
        }

        long walks(int u, int v, int k) {
            if (isNone(u) || isNone(v)) {
                return -1;
            }
            if (k < 0 || k > 12) {
                return -2;
            }
            return sumOfWalks(u, v, k).longValueExact();
        }

        /** By halves: over the node in the middle. */
        private BigInteger sumOfWalks(int u, int v, int k) {
            if (k <= 1) {
                return BigInteger.valueOf(k == 1 ? weights.get(u)[v] : u == v ? 1 : 0);
            }
            BigInteger sum = BigInteger.ZERO;
            for (int m = 0; m < jumps.size(); m++) {
                BigInteger first = sumOfWalks(u, m, k / 2);
                if (first.signum() != 0) {
                    sum = sum.add(first.multiply(sumOfWalks(m, v, k - k / 2)));
                }
            }
            return sum;
        }

        int drawn(int u, int seed, int k) {
            if (isNone(u)) {
                return -1;
            }
            if (k < 0 || k > 200) {
                return -2;
            }
            int at = u;
            long z = seed & 0xFFFFFFFFL;
            for (int i = 0; i < k; i++) {
                z = (z * 1664525L + 1013904223L) & 0xFFFFFFFFL;
                long t = z / 2 % total(at);
                int v = 0;
                for (long sum = row(at, 0); sum <= t; sum += row(at, v)) {
                    v++;
                }
                at = v;
            }
            return at;
        }
    }
}

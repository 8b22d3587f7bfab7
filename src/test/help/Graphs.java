/** Graphs that several tests walk on. */
final class Graphs {
    private Graphs() {
    }

    /** No weights, all jumps 1. */
    static WalkRanks withNodes(int count) {
        WalkRanks x = new WalkRanks();
        for (int v = 0; v < count; v++) {
            x.node();
        }
        return x;
    }

    /** No jumps, and weights written u, v, w one behind the other. */
    static WalkRanks byWeights(int count, int... weights) {
        WalkRanks x = withNodes(count);
        for (int v = 0; v < count; v++) {
            x.jump(v, 0);
        }
        for (int i = 0; i + 2 < weights.length; i += 3) {
            x.weight(weights[i], weights[i + 1], weights[i + 2]);
        }
        return x;
    }

    /** Five nodes in a line; at 0 and 4 a walk stays for ever. */
    static WalkRanks lineWithStops(int down, int up) {
        return byWeights(5, 0, 0, 1, 1, 0, down, 1, 2, up, 2, 1, down, 2, 3, up, 3, 2, down, 3, 4, up, 4, 4, 1);
    }

    /** Five nodes in a line; at 0 and 4 a walk turns round. */
    static WalkRanks lineWithTurns() {
        return byWeights(5, 0, 1, 1, 1, 0, 1, 1, 2, 1, 2, 1, 1, 2, 3, 1, 3, 2, 1, 3, 4, 1, 4, 3, 1);
    }

    /** From each node one step on to the next, from the last one to 0. */
    static WalkRanks round(int count) {
        WalkRanks x = byWeights(count);
        for (int v = 0; v < count; v++) {
            x.weight(v, (v + 1) % count, 1);
        }
        return x;
    }

    /** All weights and all jumps are 2. */
    static WalkRanks full() {
        WalkRanks x = withNodes(5);
        for (int u = 0; u < 5; u++) {
            x.jump(u, 2);
            for (int v = 0; v < 5; v++) {
                x.weight(u, v, 2);
            }
        }
        return x;
    }
}

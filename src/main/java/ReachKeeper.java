import java.util.NoSuchElementException;

/** Keeps which vertex leads to which while edges come and go in rounds. */
public final class ReachKeeper {
    private static final int VERTICES = 32;
    private static final int MOST_CHANGES = 60;
    private static final int NONE = -1;

    // An edge, like a pair, is told by its number 32 a + b in all rows.
    private final int[] edgeCounts;
    private final int[] gatheredEdges;
    // What the gathered changes add to each edge's count, taken together:
    // a round is done as one, so only the sum may lead to a conflict.
    private final int[] gatheredSums;
    private int gatheredSize;

    private final PairSet edges;
    private final PairSet holding;
    private final PairSet heldBefore;
    private final PairSet newlyHolding;
    private final PairSet noLongerHolding;

    public ReachKeeper() {
        edgeCounts = new int[VERTICES * VERTICES];
        gatheredEdges = new int[MOST_CHANGES];
        gatheredSums = new int[VERTICES * VERTICES];
        gatheredSize = 0;
        edges = new PairSet();
        holding = new PairSet();
        heldBefore = new PairSet();
        newlyHolding = new PairSet();
        noLongerHolding = new PairSet();
    }

    public int change(int a, int b, boolean more) throws IllegalArgumentException, IndexOutOfBoundsException {
        requireVertices(a, b);
        if (gatheredSize >= MOST_CHANGES) {
            throw new IndexOutOfBoundsException("the round is full");
        }
        int edge = numberOf(a, b);
        gatheredEdges[gatheredSize] = edge;
        gatheredSums[edge] += more ? 1 : -1;
        gatheredSize++;
        return gatheredSize;
    }

    public int forget() {
        int forgotten = gatheredSize;
        clearGathered();
        return forgotten;
    }

    public int apply() throws IllegalStateException {
        if (gatheredConflicts()) {
            throw new IllegalStateException("a count would be below 0");
        }
        addGatheredToCounts();
        clearGathered();
        followEdges();
        return newlyHolding.size() + noLongerHolding.size();
    }

    public boolean holds(int a, int b) throws IllegalArgumentException {
        requireVertices(a, b);
        return holding.has(a, b);
    }

    public int came(int i) throws NoSuchElementException {
        return requirePair(newlyHolding.pairAt(i));
    }

    public int went(int i) throws NoSuchElementException {
        return requirePair(noLongerHolding.pairAt(i));
    }

    public int distance(int a, int b) throws IllegalArgumentException, NoSuchElementException {
        requireVertices(a, b);
        int steps = edges.shortestWay(a, b);
        if (steps == NONE) {
            throw new NoSuchElementException("no way leads there");
        }
        return steps;
    }

    public int times(int a, int b) throws IllegalArgumentException {
        requireVertices(a, b);
        return edgeCounts[numberOf(a, b)];
    }

    public int count(int what) {
        switch (what) {
            case 0:
                return edges.size();
            case 1:
                return sumOfCounts();
            case 2:
                return holding.size();
            case 3:
                return gatheredSize;
            case 4:
                return newlyHolding.size();
            case 5:
                return noLongerHolding.size();
            case 6:
                return holding.loops();
            case 7:
                return holding.circles();
            default:
                return -1;
        }
    }

    private static boolean isVertex(int v) {
        return v >= 0 && v < VERTICES;
    }

    private static void requireVertices(int a, int b) {
        if (!isVertex(a) || !isVertex(b)) {
            throw new IllegalArgumentException("no such vertex");
        }
    }

    private static int requirePair(int pair) {
        if (pair == NONE) {
            throw new NoSuchElementException("no such pair");
        }
        return pair;
    }

    private static int numberOf(int a, int b) {
        return VERTICES * a + b;
    }

    private boolean gatheredConflicts() {
        for (int i = 0; i < gatheredSize; i++) {
            int edge = gatheredEdges[i];
            if (edgeCounts[edge] + gatheredSums[edge] < 0) {
                return true;
            }
        }
        return false;
    }

    private void addGatheredToCounts() {
        for (int i = 0; i < gatheredSize; i++) {
            int edge = gatheredEdges[i];
            edgeCounts[edge] += gatheredSums[edge];
            // An edge may be gathered several times, but its sum counts once.
            gatheredSums[edge] = 0;
            edges.put(edge / VERTICES, edge % VERTICES, edgeCounts[edge] > 0);
        }
    }

    private void clearGathered() {
        for (int i = 0; i < gatheredSize; i++) {
            gatheredSums[gatheredEdges[i]] = 0;
        }
        gatheredSize = 0;
    }

    private void followEdges() {
        heldBefore.copyFrom(holding);
        holding.copyFrom(edges);
        holding.joinWays();
        newlyHolding.becomeDifference(holding, heldBefore);
        noLongerHolding.becomeDifference(heldBefore, holding);
    }

    private int sumOfCounts() {
        int sum = 0;
        for (int edge = 0; edge < edgeCounts.length; edge++) {
            sum += edgeCounts[edge];
        }
        return sum;
    }

    /** A set of pairs of vertices; the pair (a, b) is bit b of row a. */
    private static final class PairSet {
        private final int[] rows;

        PairSet() {
            rows = new int[VERTICES];
        }

        boolean has(int a, int b) {
            return hasBit(rows[a], b);
        }

        void put(int a, int b, boolean in) {
            if (in) {
                rows[a] |= 1 << b;
            } else {
                rows[a] &= ~(1 << b);
            }
        }

        void copyFrom(PairSet other) {
            for (int a = 0; a < VERTICES; a++) {
                rows[a] = other.rows[a];
            }
        }

        void becomeDifference(PairSet whole, PairSet without) {
            for (int a = 0; a < VERTICES; a++) {
                rows[a] = whole.rows[a] & ~without.rows[a];
            }
        }

        int size() {
            int sum = 0;
            for (int a = 0; a < VERTICES; a++) {
                sum += Integer.bitCount(rows[a]);
            }
            return sum;
        }

        int pairAt(int place) {
            if (place < 0) {
                return NONE;
            }
            int left = place;
            for (int a = 0; a < VERTICES; a++) {
                int inRow = Integer.bitCount(rows[a]);
                if (left < inRow) {
                    return numberOf(a, bitAt(rows[a], left));
                }
                left -= inRow;
            }
            return NONE;
        }

        /** Warshall's way: after round v all ways that pass only vertices up to v are joined. */
        void joinWays() {
            for (int v = 0; v < VERTICES; v++) {
                for (int a = 0; a < VERTICES; a++) {
                    if (has(a, v)) {
                        rows[a] |= rows[v];
                    }
                }
            }
        }

        int shortestWay(int a, int b) {
            int reached = rows[a];
            // A shortest way ends in each vertex at most once, so it has at most 32 edges.
            for (int steps = 1; steps <= VERTICES; steps++) {
                if (hasBit(reached, b)) {
                    return steps;
                }
                reached |= oneStepFrom(reached);
            }
            return NONE;
        }

        int loops() {
            int sum = 0;
            for (int a = 0; a < VERTICES; a++) {
                if (has(a, a)) {
                    sum++;
                }
            }
            return sum;
        }

        int circles() {
            int sum = 0;
            for (int a = 0; a < VERTICES; a++) {
                if (has(a, a) && !hasLowerMate(a)) {
                    sum++;
                }
            }
            return sum;
        }

        // A circle is counted at its lowest vertex alone.
        private boolean hasLowerMate(int a) {
            for (int b = 0; b < a; b++) {
                if (has(a, b) && has(b, a)) {
                    return true;
                }
            }
            return false;
        }

        private int oneStepFrom(int vertices) {
            int next = 0;
            for (int v = 0; v < VERTICES; v++) {
                if (hasBit(vertices, v)) {
                    next |= rows[v];
                }
            }
            return next;
        }

        private static boolean hasBit(int row, int b) {
            return (row >>> b & 1) != 0;
        }

        private static int bitAt(int row, int place) {
            int left = place;
            for (int b = 0; b < VERTICES; b++) {
                if (hasBit(row, b)) {
                    if (left == 0) {
                        return b;
                    }
                    left--;
                }
            }
            return NONE;
        }
    }
}

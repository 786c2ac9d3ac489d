import java.util.ArrayList;
import java.util.List;
import java.util.NoSuchElementException;

/** The document's words written down once more, as slowly and plainly as can be, to compare with. */
final class Model {
    private final int[][] counts = new int[32][32];
    private final List<int[]> gathered = new ArrayList<>();
    private int[][] distances = new int[32][32];
    private List<Integer> came = new ArrayList<>();
    private List<Integer> went = new ArrayList<>();

    int change(int a, int b, boolean more) {
        check(a, b);
        if (gathered.size() == 60) {
            throw new IndexOutOfBoundsException();
        }
        gathered.add(new int[] {a, b, more ? 1 : -1});
        return gathered.size();
    }

    int forget() {
        int size = gathered.size();
        gathered.clear();
        return size;
    }

    int apply() {
        int[][] sums = new int[32][32];
        for (int[] change : gathered) {
            sums[change[0]][change[1]] += change[2];
        }
        for (int pair = 0; pair < 1024; pair++) {
            if (counts[pair / 32][pair % 32] + sums[pair / 32][pair % 32] < 0) {
                throw new IllegalStateException();
            }
        }
        for (int pair = 0; pair < 1024; pair++) {
            counts[pair / 32][pair % 32] += sums[pair / 32][pair % 32];
        }
        gathered.clear();
        int[][] before = distances;
        distances = allDistances();
        came = onlyInFirst(distances, before);
        went = onlyInFirst(before, distances);
        return came.size() + went.size();
    }

    boolean holds(int a, int b) {
        check(a, b);
        return distances[a][b] > 0;
    }

    int came(int i) {
        return at(came, i);
    }

    int went(int i) {
        return at(went, i);
    }

    int distance(int a, int b) {
        check(a, b);
        if (distances[a][b] == 0) {
            throw new NoSuchElementException();
        }
        return distances[a][b];
    }

    int times(int a, int b) {
        check(a, b);
        return counts[a][b];
    }

    int count(int what) {
        int edges = 0;
        int sum = 0;
        int pairs = 0;
        int loops = 0;
        List<List<Integer>> sets = new ArrayList<>();
        for (int a = 0; a < 32; a++) {
            List<Integer> mates = new ArrayList<>();
            for (int b = 0; b < 32; b++) {
                edges += counts[a][b] > 0 ? 1 : 0;
                sum += counts[a][b];
                pairs += distances[a][b] > 0 ? 1 : 0;
                if (distances[a][b] > 0 && distances[b][a] > 0) {
                    mates.add(b);
                }
            }
            loops += distances[a][a] > 0 ? 1 : 0;
            if (!mates.isEmpty() && !sets.contains(mates)) {
                sets.add(mates);
            }
        }
        int[] all = {edges, sum, pairs, gathered.size(), came.size(), went.size(), loops, sets.size()};
        return what >= 0 && what < all.length ? all[what] : -1;
    }

    private static void check(int a, int b) {
        if (a < 0 || a > 31 || b < 0 || b > 31) {
            throw new IllegalArgumentException();
        }
    }

    private static int at(List<Integer> pairs, int i) {
        if (i < 0 || i >= pairs.size()) {
            throw new NoSuchElementException();
        }
        return pairs.get(i);
    }

    private int[][] allDistances() {
        int[][] found = new int[32][32];
        for (int a = 0; a < 32; a++) {
            List<Integer> line = new ArrayList<>();
            visitNext(found[a], line, a, 1);
            for (int i = 0; i < line.size(); i++) {
                visitNext(found[a], line, line.get(i), found[a][line.get(i)] + 1);
            }
        }
        return found;
    }

    private void visitNext(int[] found, List<Integer> line, int from, int steps) {
        for (int b = 0; b < 32; b++) {
            if (counts[from][b] > 0 && found[b] == 0) {
                found[b] = steps;
                line.add(b);
            }
        }
    }

    private static List<Integer> onlyInFirst(int[][] first, int[][] second) {
        List<Integer> pairs = new ArrayList<>();
        for (int pair = 0; pair < 1024; pair++) {
            if (first[pair / 32][pair % 32] > 0 && second[pair / 32][pair % 32] == 0) {
                pairs.add(pair);
            }
        }
        return pairs;
    }
}

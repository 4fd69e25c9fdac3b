import java.util.ArrayList;
import java.util.List;

/**
 * The document's Terms once more, in the slowest and plainest way and without a line of the class: the strip is walked
 * unit by unit, and of all ways to say above or below for every overlapping pair those that keep the four rules stay.
 */
final class Oracle {
    final int length;
    final int[] places;
    final int[] marks;
    final boolean turned;
    final int segments;
    /** The folded place of each point of the strip. */
    final int[] folded;
    /** The segment to which each unit of the strip belongs. */
    final int[] owner;
    final List<int[]> pairs = new ArrayList<>();
    /** Each order as a table: table[a][b] is 1 if a is above b, 0 if below, -1 if they don't overlap. */
    final List<int[][]> orders = new ArrayList<>();
    final List<int[]> steps = new ArrayList<>();
    boolean folds;

    Oracle(int length, int[] places, int[] marks, boolean turned) {
        this.length = length;
        this.places = places;
        this.marks = marks;
        this.turned = turned;
        segments = places.length + 1;
        folded = new int[length + 1];
        owner = new int[length];
        walk();
        for (int b = 0; b < segments; b++) {
            for (int a = 0; a < b; a++) {
                if (overlap(a, b)) {
                    pairs.add(new int[] {a, b});
                }
            }
        }
        findOrders();
        if (free() == 0) {
            reduce();
        }
    }

    private void walk() {
        int segment = 0;
        int way = 1;
        for (int u = 0; u < length; u++) {
            if (segment < places.length && places[segment] == u) {
                segment++;
                way = -way;
            }
            owner[u] = segment;
            folded[u + 1] = folded[u] + way;
        }
    }

    int free() {
        int free = 0;
        for (int mark : marks) {
            free += mark == 0 ? 1 : 0;
        }
        return free;
    }

    /** Whether a segment lies over the stretch from a folded place to the next one. */
    boolean covers(int segment, int place) {
        for (int u = 0; u < length; u++) {
            if (owner[u] == segment && Math.min(folded[u], folded[u + 1]) == place) {
                return true;
            }
        }
        return false;
    }

    boolean overlap(int a, int b) {
        for (int place = -length; place <= length; place++) {
            if (a != b && covers(a, place) && covers(b, place)) {
                return true;
            }
        }
        return false;
    }

    int width() {
        int stretches = 0;
        for (int place = -length; place <= length; place++) {
            stretches += thicknessAt(place) > 0 ? 1 : 0;
        }
        return stretches;
    }

    int thicknessAt(int place) {
        int many = 0;
        for (int s = 0; s < segments; s++) {
            many += covers(s, place) ? 1 : 0;
        }
        return many;
    }

    int thickness() {
        int most = 0;
        for (int place = -length; place <= length; place++) {
            most = Math.max(most, thicknessAt(place));
        }
        return most;
    }

    int foldedCrease(int i) {
        return folded[places[i]];
    }

    /** A place is inside an image if the segment lies on both sides of it. */
    boolean inside(int segment, int place) {
        return covers(segment, place - 1) && covers(segment, place);
    }

    boolean frontUp(int segment) {
        return segment % 2 == 0 ? !turned : turned;
    }

    private void findOrders() {
        boolean[][] overlaps = new boolean[segments][segments];
        for (int[] pair : pairs) {
            overlaps[pair[0]][pair[1]] = true;
            overlaps[pair[1]][pair[0]] = true;
        }
        boolean[][] insides = new boolean[segments][places.length];
        for (int s = 0; s < segments; s++) {
            for (int i = 0; i < places.length; i++) {
                insides[s][i] = inside(s, foldedCrease(i));
            }
        }
        int[][] table = new int[segments][segments];
        for (int[] row : table) {
            java.util.Arrays.fill(row, -1);
        }
        // the first pair has the greatest weight, and below comes before above
        for (int way = 0; way < 1 << pairs.size(); way++) {
            for (int i = 0; i < pairs.size(); i++) {
                int bit = way >> (pairs.size() - 1 - i) & 1;
                table[pairs.get(i)[0]][pairs.get(i)[1]] = bit;
                table[pairs.get(i)[1]][pairs.get(i)[0]] = 1 - bit;
            }
            if (marksKept(table) && noRound(table) && noCrossing(table, insides) && nested(table, overlaps)) {
                int[][] copy = new int[segments][];
                for (int s = 0; s < segments; s++) {
                    copy[s] = table[s].clone();
                }
                orders.add(copy);
            }
        }
    }

    private boolean marksKept(int[][] table) {
        for (int i = 0; i < places.length; i++) {
            if (marks[i] == 0) {
                continue;
            }
            int due = frontUp(i) ? 1 : 0;
            if (marks[i] == 1) {
                due = 1 - due;
            }
            if (table[i + 1][i] != due) {
                return false;
            }
        }
        return true;
    }

    private boolean noRound(int[][] table) {
        for (int a = 0; a < segments; a++) {
            for (int b = 0; b < segments; b++) {
                for (int c = 0; c < segments; c++) {
                    if (table[a][b] == 1 && table[b][c] == 1 && table[c][a] == 1) {
                        return false;
                    }
                }
            }
        }
        return true;
    }

    private static boolean between(int[][] table, int s, int a, int b) {
        return table[s][a] == 1 && table[s][b] == 0 || table[s][a] == 0 && table[s][b] == 1;
    }

    private boolean noCrossing(int[][] table, boolean[][] insides) {
        for (int s = 0; s < segments; s++) {
            for (int i = 0; i < places.length; i++) {
                if (insides[s][i] && between(table, s, i, i + 1)) {
                    return false;
                }
            }
        }
        return true;
    }

    private boolean nested(int[][] table, boolean[][] overlaps) {
        for (int i = 0; i < places.length; i++) {
            for (int j = 0; j < places.length; j++) {
                boolean all = foldedCrease(i) == foldedCrease(j)
                        && overlaps[i][i + 1] && overlaps[j][j + 1] && overlaps[i][j] && overlaps[i][j + 1]
                        && overlaps[i + 1][j] && overlaps[i + 1][j + 1];
                if (all && between(table, j, i, i + 1) != between(table, j + 1, i, i + 1)) {
                    return false;
                }
            }
        }
        return true;
    }

    /** Whether there are orders for each of the markings of the free creases, tried one by one. */
    int markings() {
        List<Integer> frees = new ArrayList<>();
        for (int i = 0; i < marks.length; i++) {
            if (marks[i] == 0) {
                frees.add(i);
            }
        }
        int many = 0;
        for (int way = 0; way < 1 << frees.size(); way++) {
            int[] tried = marks.clone();
            for (int i = 0; i < frees.size(); i++) {
                tried[frees.get(i)] = 1 + (way >> i & 1);
            }
            many += new Oracle(length, places, tried, turned).orders.isEmpty() ? 0 : 1;
        }
        return many;
    }

    int layer(int n, int place, int k) {
        List<Integer> pile = new ArrayList<>();
        for (int s = 0; s < segments; s++) {
            if (covers(s, place)) {
                int at = 0;
                while (at < pile.size() && orders.get(n)[s][pile.get(at)] == 1) {
                    at++;
                }
                pile.add(at, s);
            }
        }
        return k < pile.size() ? pile.get(k) : -1;
    }

    private void reduce() {
        List<Integer> lengths = new ArrayList<>();
        List<Integer> creases = new ArrayList<>();
        for (int i = 0; i < segments; i++) {
            int left = i == 0 ? 0 : places[i - 1];
            lengths.add((i < places.length ? places[i] : length) - left);
            if (i < places.length) {
                creases.add(i);
            }
        }
        boolean going = true;
        while (lengths.size() > 1 && going) {
            going = reduceFirst(lengths, creases) || reduceLast(lengths, creases) || reducePleat(lengths, creases);
        }
        folds = lengths.size() == 1;
    }

    private boolean reduceFirst(List<Integer> lengths, List<Integer> creases) {
        if (lengths.get(0) > lengths.get(1)) {
            return false;
        }
        steps.add(new int[] {1, places[creases.get(0)]});
        lengths.remove(0);
        creases.remove(0);
        return true;
    }

    private boolean reduceLast(List<Integer> lengths, List<Integer> creases) {
        int last = lengths.size() - 1;
        if (lengths.get(last) > lengths.get(last - 1)) {
            return false;
        }
        steps.add(new int[] {2, places[creases.get(last - 1)]});
        lengths.remove(last);
        creases.remove(last - 1);
        return true;
    }

    private boolean reducePleat(List<Integer> lengths, List<Integer> creases) {
        for (int i = 1; i + 1 < lengths.size(); i++) {
            int a = lengths.get(i - 1);
            int b = lengths.get(i);
            int c = lengths.get(i + 1);
            int both = marks[creases.get(i - 1)] + marks[creases.get(i)];
            if (b <= a && b <= c && both == 3) {
                steps.add(new int[] {3, places[creases.get(i - 1)]});
                lengths.set(i - 1, a - b + c);
                lengths.remove(i);
                lengths.remove(i);
                creases.remove(i - 1);
                creases.remove(i - 1);
                return true;
            }
        }
        return false;
    }
}

import java.util.ArrayList;
import java.util.HashSet;
import java.util.List;
import java.util.Set;

/**
 * Promises 10, 13, 14, 15 and 16 on full strips, of six creases: the oracle finds the orders once, with all creases
 * free, and each of the 729 ways to mark them (free, mountain, valley), turned and not, must leave those that keep it.
 */
public final class FullStripTest {
    private static final int SEGMENTS = 7;
    /** Of an object no more than 512 calls are asked; so many orders can be compared with those. */
    private static final int ORDERS_OF_ONE_OBJECT = 10;

    private final Oracle oracle;

    private FullStripTest(Oracle oracle) {
        this.oracle = oracle;
    }

    public static void main(String[] args) {
        // the fewest places that six creases have room on, and all ways to leave one more out
        compareAll(7, 1, 2, 3, 4, 5, 6);
        for (int without = 1; without <= 7; without++) {
            int[] places = new int[6];
            for (int i = 0; i < 6; i++) {
                places[i] = i + 1 < without ? i + 1 : i + 2;
            }
            compareAll(8, places);
        }
        compareAll(60, 1, 2, 3, 4, 5, 6);
        compareAll(60, 54, 55, 56, 57, 58, 59);
        // a spiral inward, one outward, pleats, and some without order
        compareAll(28, 7, 13, 18, 22, 25, 27);
        compareAll(28, 1, 3, 6, 10, 15, 21);
        compareAll(18, 3, 5, 8, 10, 13, 15);
        compareAll(37, 9, 12, 20, 23, 25, 31);
        compareAll(60, 11, 15, 27, 36, 40, 51);
        Checks.end();
    }

    private static void compareAll(int length, int... places) {
        new FullStripTest(new Oracle(length, places, new int[6], false)).compareMarkings();
    }

    private void compareMarkings() {
        for (int way = 0; way < 729; way++) {
            int[] marks = new int[6];
            int rest = way;
            for (int i = 0; i < 6; i++) {
                marks[i] = rest % 3;
                rest /= 3;
            }
            compare(marks, false);
            compare(marks, true);
        }
    }

    private void compare(int[] marks, boolean turned) {
        String name = oracle.length + " " + java.util.Arrays.toString(oracle.places) + " marked "
                + java.util.Arrays.toString(marks) + (turned ? " turned: " : ": ");
        List<int[][]> due = new ArrayList<>();
        Set<String> markings = new HashSet<>();
        for (int[][] order : oracle.orders) {
            int[] told = marksOf(order, turned);
            if (agree(marks, told)) {
                due.add(order);
                markings.add(java.util.Arrays.toString(told));
            }
        }
        FoldLaboratory x = made(marks, turned);
        Checks.due(name + "orders()", due.size(), x.orders());
        Checks.due(name + "marks()", markings.size(), x.marks());
        // known of strips: the reductions tell just when there is a layer order
        Checks.due(name + "foldable()", x.count(2) > 0 ? -1 : due.isEmpty() ? 0 : 1, x.foldable());
        if (due.size() == x.orders()) {
            compareOrders(name, due, marks, turned);
        }
    }

    private FoldLaboratory made(int[] marks, boolean turned) {
        FoldLaboratory x = new FoldLaboratory();
        x.strip(oracle.length);
        for (int i = 0; i < 6; i++) {
            x.crease(oracle.places[i], marks[i]);
        }
        if (turned) {
            x.turn();
        }
        return x;
    }

    /** The marks that an order tells: a valley's right segment is above the left one if that has its front up. */
    private static int[] marksOf(int[][] order, boolean turned) {
        int[] told = new int[6];
        for (int i = 0; i < 6; i++) {
            boolean frontUp = i % 2 == 0 ? !turned : turned;
            boolean rightAbove = order[i + 1][i] == 1;
            told[i] = rightAbove == frontUp ? 2 : 1;
        }
        return told;
    }

    private static boolean agree(int[] marks, int[] told) {
        for (int i = 0; i < 6; i++) {
            if (marks[i] != 0 && marks[i] != told[i]) {
                return false;
            }
        }
        return true;
    }

    private void compareOrders(String name, List<int[][]> due, int[] marks, boolean turned) {
        FoldLaboratory x = null;
        for (int n = 0; n < due.size(); n++) {
            if (n % ORDERS_OF_ONE_OBJECT == 0) {
                x = made(marks, turned);
            }
            long want = 0;
            long got = 0;
            for (int b = 0; b < SEGMENTS; b++) {
                for (int a = 0; a < b; a++) {
                    want = 3 * want + due.get(n)[a][b] + 1;
                    got = 3 * got + x.above(n, a, b) + 1;
                }
            }
            Checks.due(name + "above(" + n + ", a, b), all in one number", want, got);
            compareStretch(name, due.get(n), x, n);
        }
    }

    /** One stretch of each order; which one changes with its number, so that all have their turn. */
    private void compareStretch(String name, int[][] order, FoldLaboratory x, int n) {
        int point = n % oracle.length;
        int place = Math.min(oracle.folded[point], oracle.folded[point + 1]);
        int many = oracle.thicknessAt(place);
        for (int k = 0; k < many; k++) {
            int s = x.layer(n, place, k);
            String call = name + "layer(" + n + ", " + place + ", " + k + ")";
            Checks.due(call + " lies there", true, s >= 0 && s < SEGMENTS && oracle.covers(s, place));
            Checks.due(call + ": how many lie below", k, below(order, s, place));
        }
        Checks.due(name + "layer(" + n + ", " + place + ", " + many + ")", -1, x.layer(n, place, many));
    }

    private int below(int[][] order, int s, int place) {
        int below = 0;
        for (int other = 0; other < SEGMENTS; other++) {
            if (s >= 0 && other != s && oracle.covers(other, place) && order[s][other] == 1) {
                below++;
            }
        }
        return below;
    }
}

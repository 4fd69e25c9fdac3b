/** Promises 6 to 16 on many strips, each answer beside the one that the oracle finds. */
public final class OracleTest {
    private long seed = 20261115;

    public static void main(String[] args) {
        OracleTest test = new OracleTest();
        for (int i = 0; i < 1500; i++) {
            test.compareOne(test.next(6), 60);
            test.compareOne(test.next(6), 14);
        }
        for (int i = 0; i < 60; i++) {
            test.compareOne(5, 8 + test.next(53));
        }
        for (int i = 0; i < 6; i++) {
            test.compareOne(6, 8 + 6 * i);
        }
        Checks.end();
    }

    /** A row of numbers that looks without order and is the same each time. */
    private int next(int bound) {
        seed = seed * 6364136223846793005L + 1442695040888963407L;
        return (int) ((seed >>> 33) % bound);
    }

    private void compareOne(int mostCreases, int mostLength) {
        int length = 1 + next(mostLength);
        if (mostCreases == 6) {
            length = mostLength;
        }
        int creases = Math.min(mostCreases, length - 1);
        boolean[] taken = new boolean[length];
        for (int i = 0; i < creases; i++) {
            int place = 1 + next(length - 1);
            while (taken[place]) {
                place = 1 + place % (length - 1);
            }
            taken[place] = true;
        }
        int[] places = new int[creases];
        int[] marks = new int[creases];
        int frees = next(3);
        for (int place = 1, i = 0; place < length; place++) {
            if (taken[place]) {
                places[i] = place;
                // now none is free, now some, now all
                marks[i] = frees == 0 ? 1 + next(2) : frees == 1 ? next(3) : 0;
                i++;
            }
        }
        compare(new Oracle(length, places, marks, next(2) == 1));
    }

    private void compare(Oracle oracle) {
        StringBuilder text = new StringBuilder("length " + oracle.length + (oracle.turned ? " turned" : ""));
        FoldLaboratory x = new FoldLaboratory();
        x.strip(oracle.length);
        for (int i = oracle.places.length - 1; i >= 0; i--) {
            x.crease(oracle.places[i], oracle.marks[i]);
            text.append(" ").append(oracle.places[i]).append("fmv".charAt(oracle.marks[i]));
        }
        if (oracle.turned) {
            x.turn();
        }
        String name = text + ": ";
        compareFolded(name, x, oracle);
        compareReductions(name, x, oracle);
        compareLayers(name, x, oracle);
    }

    private void compareFolded(String name, FoldLaboratory x, Oracle oracle) {
        for (int p = 0; p <= oracle.length; p++) {
            Checks.due(name + "whereIs(" + p + ")", oracle.folded[p], x.whereIs(p));
        }
        for (int i = 0; i < oracle.segments; i++) {
            int left = i == 0 ? 0 : oracle.places[i - 1];
            int right = i < oracle.places.length ? oracle.places[i] : oracle.length;
            int mark = i < oracle.places.length ? oracle.marks[i] : -1;
            int[] want = {left, right, Math.min(oracle.folded[left], oracle.folded[right]),
                Math.max(oracle.folded[left], oracle.folded[right]), oracle.frontUp(i) ? 1 : 0, mark};
            for (int what = 0; what < want.length; what++) {
                Checks.due(name + "segment(" + i + ", " + what + ")", want[what], x.segment(i, what));
            }
        }
        Checks.due(name + "width()", oracle.width(), x.width());
        Checks.due(name + "thickness()", oracle.thickness(), x.thickness());
    }

    private void compareReductions(String name, FoldLaboratory x, Oracle oracle) {
        if (oracle.free() > 0) {
            Checks.due(name + "foldable()", -1, x.foldable());
            Checks.due(name + "steps()", -1, x.steps());
            return;
        }
        Checks.due(name + "foldable()", oracle.folds ? 1 : 0, x.foldable());
        // known of strips: the reductions tell just when there is a layer order
        Checks.due(name + "foldable() beside orders()", x.orders() > 0 ? 1 : 0, x.foldable());
        Checks.due(name + "steps()", oracle.steps.size(), x.steps());
        for (int i = 0; i < oracle.steps.size(); i++) {
            Checks.due(name + "step(" + i + ", 0)", oracle.steps.get(i)[0], x.step(i, 0));
            Checks.due(name + "step(" + i + ", 1)", oracle.steps.get(i)[1], x.step(i, 1));
        }
    }

    private void compareLayers(String name, FoldLaboratory x, Oracle oracle) {
        Checks.due(name + "orders()", oracle.orders.size(), x.orders());
        if (oracle.segments < 7) {
            Checks.due(name + "marks()", oracle.markings(), x.marks());
        }
        for (int n = 0; n < Math.min(oracle.orders.size(), x.orders()); n++) {
            for (int a = 0; a < oracle.segments; a++) {
                for (int b = 0; b < oracle.segments; b++) {
                    String call = name + "above(" + n + ", " + a + ", " + b + ")";
                    Checks.due(call, oracle.orders.get(n)[a][b], x.above(n, a, b));
                }
            }
            int place = next(2 * oracle.length) - oracle.length;
            for (int k = 0; k < oracle.segments; k++) {
                String call = name + "layer(" + n + ", " + place + ", " + k + ")";
                Checks.due(call, oracle.layer(n, place, k), x.layer(n, place, k));
            }
        }
    }
}

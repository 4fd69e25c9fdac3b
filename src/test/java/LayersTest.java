/** Promises 13 to 16: orders, above, layer, marks. */
public final class LayersTest {
    public static void main(String[] args) {
        likeSegments();
        marksAtCreases();
        roundOfThree();
        acrossACrease();
        twoCreasesAtOnePlace();
        onlyOverlapsCount();
        numbering();
        aboveRefused();
        layer();
        layerLeftOfNought();
        marks();
        changesAreSeen();
        Checks.end();
    }

    private static FoldLaboratory alike(int segments, int mark) {
        FoldLaboratory x = Checks.folded(segments);
        for (int place = 1; place < segments; place++) {
            x.crease(place, mark);
        }
        return x;
    }

    /** In how many ways a strip of stamps can be folded is known: 1, 2, 6, 16, 50, 144, 462. */
    private static void likeSegments() {
        int[] stamps = {1, 2, 6, 16, 50, 144, 462};
        for (int n = 1; n <= 7; n++) {
            FoldLaboratory x = alike(n, 0);
            Checks.due(n + " stamps", stamps[n - 1], x.orders());
            Checks.due(n + " stamps, marks", 1 << (n - 1), x.marks());
            x.turn();
            Checks.due(n + " stamps turned", stamps[n - 1], x.orders());
        }
        FoldLaboratory pleated = Checks.folded(7, 1, 1, 2, 2, 3, 1, 4, 2, 5, 1, 6, 2);
        Checks.due("pleats lie in one way", 1, pleated.orders());
        for (int k = 0; k < 7; k++) {
            Checks.due("pleats, layer " + k, 6 - k, pleated.layer(0, 0, k));
        }
    }

    private static void marksAtCreases() {
        for (int mark = 1; mark <= 2; mark++) {
            FoldLaboratory x = Checks.folded(4, 2, mark);
            Checks.due("one crease, one order", 1, x.orders());
            Checks.due("mark " + mark + ": 1 above 0", mark == 2 ? 1 : 0, x.above(0, 1, 0));
            Checks.due("mark " + mark + ": 0 above 1", mark == 2 ? 0 : 1, x.above(0, 0, 1));
            x.turn();
            Checks.due("turned, mark " + mark, mark == 2 ? 0 : 1, x.above(0, 1, 0));
        }
        FoldLaboratory x = Checks.folded(6, 2, 2, 4, 2);
        // 1 has its back up, so that at the second valley 2 is below it
        Checks.due("two valleys", 2, x.orders());
        for (int n = 0; n < 2; n++) {
            Checks.due("1 above 0", 1, x.above(n, 1, 0));
            Checks.due("2 below 1", 0, x.above(n, 2, 1));
            Checks.due("2 and 0 either way", n, x.above(n, 0, 2));
        }
    }

    private static void roundOfThree() {
        FoldLaboratory x = alike(3, 0);
        for (int n = 0; n < x.orders(); n++) {
            int round = x.above(n, 0, 1) + x.above(n, 1, 2) + x.above(n, 2, 0);
            Checks.due("no round in order " + n, false, round == 0 || round == 3);
        }
    }

    private static void acrossACrease() {
        // 0 on 0 .. 4, 1 on 3 .. 4, 2 on 3 .. 7: each crease lies inside of an image
        Checks.due("4 1 4, like marks", 0, Checks.folded(9, 4, 2, 5, 2).orders());
        FoldLaboratory x = Checks.folded(9, 4, 0, 5, 0);
        Checks.due("4 1 4, free", 2, x.orders());
        Checks.due("first: 0 below 1", 0, x.above(0, 0, 1));
        Checks.due("first: 1 below 2", 0, x.above(0, 1, 2));
        Checks.due("second: 0 above 1", 1, x.above(1, 0, 1));
        Checks.due("second: 1 above 2", 1, x.above(1, 1, 2));
        Checks.due("4 1 4, marks", 2, x.marks());
    }

    private static void twoCreasesAtOnePlace() {
        // four alike: creases 0 and 2 lie at 1, and must not interleave; 24 ways less 8
        FoldLaboratory x = alike(4, 0);
        for (int n = 0; n < x.orders(); n++) {
            boolean two = x.above(n, 2, 0) != x.above(n, 2, 1);
            boolean three = x.above(n, 3, 0) != x.above(n, 3, 1);
            Checks.due("both or none between in order " + n, two, three);
        }
        // 0 and 1 on 0 .. 2, 2 on 0 .. 4, 3 on 2 .. 4, 4 on 2 .. 6: creases 0 and 3 lie at 2, on either side of it,
        // 2 has both inside, so that it goes round neither, and 4 has crease 2 inside
        FoldLaboratory back = Checks.folded(14, 2, 0, 4, 0, 8, 0, 10, 0);
        Checks.due("0 and 3 don't overlap", -1, back.above(0, 0, 3));
        Checks.due("either side of a place", 8, back.orders());
    }

    private static void onlyOverlapsCount() {
        // 0 on 0 .. 2, 1 on -2 .. 2, 2 on -2 .. 0, which meets 0 at a point
        FoldLaboratory x = Checks.folded(8, 2, 1, 6, 1);
        Checks.due("0 and 2 don't overlap, one order", 1, x.orders());
        Checks.due("above(0, 0, 2)", -1, x.above(0, 0, 2));
        Checks.due("above(0, 2, 0)", -1, x.above(0, 2, 0));
        Checks.due("above(0, 0, 1)", 1, x.above(0, 0, 1));
        Checks.due("above(0, 1, 2)", 0, x.above(0, 1, 2));
        for (int a = 0; a < 3; a++) {
            Checks.due("one and the same", -1, x.above(0, a, a));
        }
        Checks.due("free", 4, Checks.folded(8, 2, 0, 6, 0).orders());
    }

    private static void numbering() {
        FoldLaboratory x = alike(3, 0);
        // pairs (0, 1), (0, 2), (1, 2)
        int[][] want = {{0, 0, 0}, {0, 0, 1}, {0, 1, 1}, {1, 0, 0}, {1, 1, 0}, {1, 1, 1}};
        Checks.due("orders", want.length, x.orders());
        for (int n = 0; n < want.length; n++) {
            Checks.due("order " + n + ", 0 and 1", want[n][0], x.above(n, 0, 1));
            Checks.due("order " + n + ", 0 and 2", want[n][1], x.above(n, 0, 2));
            Checks.due("order " + n + ", 1 and 2", want[n][2], x.above(n, 1, 2));
            Checks.due("order " + n + ", 2 and 1", 1 - want[n][2], x.above(n, 2, 1));
        }
    }

    private static void aboveRefused() {
        FoldLaboratory x = alike(3, 0);
        for (int n : new int[] {-1, 6, Integer.MIN_VALUE, Integer.MAX_VALUE}) {
            Checks.outOfBounds("above(" + n + ", 0, 1)", () -> x.above(n, 0, 1));
            Checks.outOfBounds("above(" + n + ", 0, 0)", () -> x.above(n, 0, 0));
        }
        for (int s : new int[] {-1, 3, Integer.MIN_VALUE, Integer.MAX_VALUE}) {
            Checks.outOfBounds("above(0, " + s + ", 1)", () -> x.above(0, s, 1));
            Checks.outOfBounds("above(0, 1, " + s + ")", () -> x.above(0, 1, s));
            Checks.outOfBounds("above(0, " + s + ", " + s + ")", () -> x.above(0, s, s));
        }
        FoldLaboratory none = Checks.folded(9, 4, 2, 5, 2);
        Checks.outOfBounds("above without an order", () -> none.above(0, 0, 1));
        Checks.outOfBounds("layer without an order", () -> none.layer(0, 0, 0));
    }

    private static void layer() {
        FoldLaboratory x = Checks.folded(9, 4, 2, 5, 1);
        int[][] want = {{0, -1, -1}, {0, -1, -1}, {0, -1, -1}, {0, 1, 2}, {2, -1, -1}, {2, -1, -1}, {2, -1, -1}};
        for (int place = 0; place < want.length; place++) {
            for (int k = 0; k < 3; k++) {
                Checks.due("layer(0, " + place + ", " + k + ")", want[place][k], x.layer(0, place, k));
            }
        }
        for (int place : new int[] {-1, 7, 100, Integer.MIN_VALUE, Integer.MAX_VALUE}) {
            Checks.due("layer(0, " + place + ", 0)", -1, x.layer(0, place, 0));
        }
        for (int k : new int[] {-1, 3, 7, Integer.MIN_VALUE, Integer.MAX_VALUE}) {
            Checks.due("layer(0, 3, " + k + ")", -1, x.layer(0, 3, k));
        }
        for (int n : new int[] {-1, 1, Integer.MIN_VALUE, Integer.MAX_VALUE}) {
            Checks.outOfBounds("layer(" + n + ", 3, 0)", () -> x.layer(n, 3, 0));
            Checks.outOfBounds("layer(" + n + ", 100, 9)", () -> x.layer(n, 100, 9));
        }
    }

    private static void layerLeftOfNought() {
        FoldLaboratory x = Checks.folded(8, 2, 1, 6, 1);
        // 0 on 0 .. 2 is above 1 on -2 .. 2, and 2 on -2 .. 0 is so too
        Checks.due("layer(0, -2, 0)", 1, x.layer(0, -2, 0));
        Checks.due("layer(0, -2, 1)", 2, x.layer(0, -2, 1));
        Checks.due("layer(0, -1, 1)", 2, x.layer(0, -1, 1));
        Checks.due("layer(0, 0, 1)", 0, x.layer(0, 0, 1));
        Checks.due("layer(0, 1, 0)", 1, x.layer(0, 1, 0));
        Checks.due("layer(0, 2, 0)", -1, x.layer(0, 2, 0));
        Checks.due("layer(0, -3, 0)", -1, x.layer(0, -3, 0));
        Checks.due("layer(0, 0, 2)", -1, x.layer(0, 0, 2));
    }

    private static void marks() {
        Checks.due("none free, and it folds", 1, Checks.folded(9, 4, 2, 5, 1).marks());
        Checks.due("none free, and it doesn't", 0, Checks.folded(9, 4, 2, 5, 2).marks());
        Checks.due("one free", 1, Checks.folded(9, 4, 2, 5, 0).marks());
        Checks.due("many orders, one marking", 1, Checks.folded(4, 1, 2, 2, 2, 3, 2).marks());
        Checks.due("one of three free", 2, Checks.folded(4, 1, 2, 2, 0, 3, 2).marks());
        // 4 1 4 with a last fold that may be either
        Checks.due("two and two", 4, Checks.folded(11, 4, 0, 5, 0, 9, 0).marks());
        // 4 1 6 3: nothing that the last crease does helps the 1 between like marks
        Checks.due("free, and no way", 0, Checks.folded(14, 4, 2, 5, 2, 11, 0).marks());
    }

    private static void changesAreSeen() {
        FoldLaboratory x = alike(7, 0);
        Checks.due("462", 462, x.orders());
        x.strip(3);
        Checks.due("a new strip", 1, x.orders());
        x.crease(1, 0);
        Checks.due("a crease", 2, x.orders());
        x.crease(1, 2);
        Checks.due("a mark", 1, x.orders());
        Checks.due("valley", 0, x.above(0, 0, 1));
        x.turn();
        Checks.due("turned", 1, x.above(0, 0, 1));
        x.crease(1, 1);
        Checks.due("mountain", 0, x.above(0, 0, 1));
        Checks.due("a text", 2, Checks.runText(x, "s4 f2"));
        Checks.due("what the text made", 2, x.orders());
        Checks.due("its marks", 2, x.marks());
        x.crease(2, 3);
        Checks.due("without it", 1, x.orders());
    }
}

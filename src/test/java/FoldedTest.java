/** Promises 6 to 9: segment, whereIs, width, thickness. */
public final class FoldedTest {
    public static void main(String[] args) {
        segment();
        segmentRefused();
        whereIs();
        widthAndThickness();
        Checks.end();
    }

    /** Segments 0 .. 2, 2 .. 7, 7 .. 8, 8 .. 10 come to lie on 0 .. 2, -3 .. 2, -3 .. -2, -4 .. -2. */
    private static FoldLaboratory leftward() {
        return Checks.folded(10, 2, 1, 7, 2, 8, 0);
    }

    private static void segment() {
        FoldLaboratory x = leftward();
        int[][] want = {
            {0, 2, 0, 2, 1, 1},
            {2, 7, -3, 2, 0, 2},
            {7, 8, -3, -2, 1, 0},
            {8, 10, -4, -2, 0, -1},
        };
        for (int i = 0; i < want.length; i++) {
            for (int what = 0; what < 6; what++) {
                Checks.due("segment(" + i + ", " + what + ")", want[i][what], x.segment(i, what));
            }
        }
        x.turn();
        for (int i = 0; i < want.length; i++) {
            for (int what = 0; what < 6; what++) {
                int due = what == 4 ? 1 - want[i][what] : want[i][what];
                Checks.due("turned, segment(" + i + ", " + what + ")", due, x.segment(i, what));
            }
        }
    }

    private static void segmentRefused() {
        FoldLaboratory x = leftward();
        for (int i : new int[] {-1, 4, 7, Integer.MIN_VALUE, Integer.MAX_VALUE}) {
            Checks.outOfBounds("segment(" + i + ", 0)", () -> x.segment(i, 0));
            Checks.outOfBounds("segment(" + i + ", 6)", () -> x.segment(i, 6));
        }
        for (int what : new int[] {-1, 6, Integer.MIN_VALUE, Integer.MAX_VALUE}) {
            Checks.wrongArgument("segment(3, " + what + ")", () -> x.segment(3, what));
        }
    }

    private static void whereIs() {
        FoldLaboratory x = leftward();
        int[] want = {0, 1, 2, 1, 0, -1, -2, -3, -2, -3, -4};
        for (int p = 0; p < want.length; p++) {
            Checks.due("whereIs(" + p + ")", want[p], x.whereIs(p));
        }
        for (int p : new int[] {-1, 11, Integer.MIN_VALUE, Integer.MAX_VALUE}) {
            Checks.wrongArgument("whereIs(" + p + ")", () -> x.whereIs(p));
        }
        x.turn();
        Checks.due("turned, whereIs(10)", -4, x.whereIs(10));
        x.crease(2, 3);
        Checks.due("without the first crease", 6, x.whereIs(8));
        Checks.due("its end", 8, x.whereIs(10));
    }

    private static void widthAndThickness() {
        FoldLaboratory x = leftward();
        Checks.due("width", 6, x.width());
        Checks.due("thickness", 3, x.thickness());
        Checks.due("a flat strip is as wide as long", 60, Checks.folded(60).width());
        Checks.due("a flat strip is one thick", 1, Checks.folded(60).thickness());
        FoldLaboratory seven = Checks.folded(7, 1, 0, 2, 0, 3, 0, 4, 0, 5, 0, 6, 0);
        Checks.due("seven alike are one wide", 1, seven.width());
        Checks.due("seven alike are seven thick", 7, seven.thickness());
        FoldLaboratory points = Checks.folded(9, 4, 1, 5, 1);
        Checks.due("the end is widest", 7, points.width());
        Checks.due("three", 3, points.thickness());
        FoldLaboratory touching = Checks.folded(12, 2, 1, 6, 1, 8, 1);
        // on 0 .. 2, -2 .. 2, -2 .. 0, -4 .. 0: the first and the third have only a point in common
        Checks.due("a point in common is no stretch", 3, touching.thickness());
        Checks.due("leftward", 6, touching.width());
    }
}

/** Promises 6 to 9: each sentence that names a boundary case has a test of its own here. */
public final class FoldedEdgesTest {
    private static final int LEAST = Integer.MIN_VALUE;
    private static final int MOST = Integer.MAX_VALUE;

    public static void main(String[] args) {
        endsOnTheStrip();
        endsOfTheImage();
        frontUpOrNot();
        markAtTheRightEnd();
        noSuchSegment();
        noSuchWhat();
        noSegmentComesBeforeNoWhat();
        whereEachPointIs();
        whereNoPointIs();
        widthOfAll();
        thicknessOfAStretch();
        Checks.end();
    }

    private static void endsOnTheStrip() {
        Checks.sentence("segment: 0 and 1 its ends on the strip");
        FoldLaboratory x = Checks.folded(60, 1, 0, 59, 0);
        int[] ends = {0, 1, 59, 60};
        for (int i = 0; i < 3; i++) {
            Checks.due("segment(" + i + ", 0)", ends[i], x.segment(i, 0));
            Checks.due("segment(" + i + ", 1)", ends[i + 1], x.segment(i, 1));
        }
        Checks.due("the whole strip from", 0, Checks.folded(1).segment(0, 0));
        Checks.due("the whole strip to", 1, Checks.folded(1).segment(0, 1));
    }

    private static void endsOfTheImage() {
        Checks.sentence("segment: 2 and 3 the ends of its image (the lesser first)");
        // to 1, to -57, to -56
        FoldLaboratory x = Checks.folded(60, 1, 0, 59, 0);
        int[][] images = {{0, 1}, {-57, 1}, {-57, -56}};
        for (int i = 0; i < 3; i++) {
            Checks.due("segment(" + i + ", 2)", images[i][0], x.segment(i, 2));
            Checks.due("segment(" + i + ", 3)", images[i][1], x.segment(i, 3));
        }
        Checks.due("a whole strip from", 0, Checks.folded(60).segment(0, 2));
        Checks.due("a whole strip to", 60, Checks.folded(60).segment(0, 3));
    }

    private static void frontUpOrNot() {
        Checks.sentence("segment: 4 whether its front is up (1 or 0)");
        FoldLaboratory x = Checks.folded(7, 1, 0, 2, 1, 3, 2, 4, 0, 5, 1, 6, 2);
        for (int i = 0; i < 7; i++) {
            Checks.due("segment(" + i + ", 4)", i % 2 == 0 ? 1 : 0, x.segment(i, 4));
        }
        x.turn();
        for (int i = 0; i < 7; i++) {
            Checks.due("turned, segment(" + i + ", 4)", i % 2 == 0 ? 0 : 1, x.segment(i, 4));
        }
    }

    private static void markAtTheRightEnd() {
        Checks.sentence("segment: 5 the mark of the crease at its right end (NONE if there is none)");
        FoldLaboratory x = Checks.folded(7, 1, 2, 2, 0, 3, 1, 4, 1, 5, 0, 6, 2);
        int[] want = {2, 0, 1, 1, 0, 2, -1};
        for (int i = 0; i < 7; i++) {
            Checks.due("segment(" + i + ", 5)", want[i], x.segment(i, 5));
        }
        x.crease(6, 3);
        Checks.due("the last crease went", -1, x.segment(5, 5));
        x.strip(7);
        Checks.due("no crease", -1, x.segment(0, 5));
    }

    private static void noSuchSegment() {
        Checks.sentence("segment: IndexOutOfBoundsException if there is no such segment");
        FoldLaboratory x = Checks.folded(60);
        for (int creases = 0; creases <= 6; creases++) {
            int beyond = creases + 1;
            Checks.due("the last of " + beyond, 60, x.segment(creases, 1));
            for (int i : new int[] {-1, beyond, beyond + 1, 60, LEAST, MOST}) {
                for (int what = 0; what < 6; what++) {
                    int w = what;
                    Checks.outOfBounds(creases + " creases, segment(" + i + ", " + what + ")", () -> x.segment(i, w));
                }
            }
            if (creases < 6) {
                x.crease(8 * creases + 8, creases % 3);
            }
        }
        x.crease(8, 3);
        Checks.outOfBounds("one went, segment(6, 0)", () -> x.segment(6, 0));
    }

    private static void noSuchWhat() {
        Checks.sentence("segment: IllegalArgumentException for another what");
        FoldLaboratory x = Checks.folded(10, 5, 1);
        for (int what : new int[] {-1, 6, 7, -6, 256, LEAST, MOST}) {
            for (int i = 0; i < 2; i++) {
                int n = i;
                Checks.refusedAndKept(x, "segment(" + i + ", " + what + ")", IllegalArgumentException.class,
                        () -> x.segment(n, what));
            }
        }
    }

    private static void noSegmentComesBeforeNoWhat() {
        Checks.sentence("segment: no such segment, and another what");
        FoldLaboratory x = Checks.folded(10, 5, 1);
        for (int what : new int[] {-1, 6, LEAST, MOST}) {
            Checks.outOfBounds("segment(-1, " + what + ")", () -> x.segment(-1, what));
            Checks.outOfBounds("segment(2, " + what + ")", () -> x.segment(2, what));
        }
    }

    private static void whereEachPointIs() {
        Checks.sentence("The folded place of a point of the strip: from its one end to its other");
        FoldLaboratory shortest = Checks.folded(1);
        Checks.due("1 long, whereIs(0)", 0, shortest.whereIs(0));
        Checks.due("1 long, whereIs(1)", 1, shortest.whereIs(1));
        FoldLaboratory flat = Checks.folded(60);
        for (int p = 0; p <= 60; p++) {
            Checks.due("flat, whereIs(" + p + ")", p, flat.whereIs(p));
        }
        // a crease's point is one of both its segments
        FoldLaboratory x = Checks.folded(9, 2, 1, 3, 1, 7, 1);
        int[] want = {0, 1, 2, 1, 2, 3, 4, 5, 4, 3};
        for (int p = 0; p < want.length; p++) {
            Checks.due("whereIs(" + p + ")", want[p], x.whereIs(p));
        }
        x.turn();
        for (int p = 0; p < want.length; p++) {
            Checks.due("turned, whereIs(" + p + ")", want[p], x.whereIs(p));
        }
    }

    private static void whereNoPointIs() {
        Checks.sentence("whereIs: IllegalArgumentException if it is not 0 .. length");
        for (int length : new int[] {1, 9, 60}) {
            FoldLaboratory x = Checks.folded(length);
            for (int p : new int[] {-1, length + 1, length + 2, -length, 256, LEAST, MOST}) {
                Checks.refusedAndKept(x, length + " long, whereIs(" + p + ")", IllegalArgumentException.class,
                        () -> x.whereIs(p));
            }
        }
        FoldLaboratory x = Checks.folded(60, 30, 1);
        x.strip(10);
        Checks.wrongArgument("beyond a strip that was cut", () -> x.whereIs(11));
    }

    private static void widthOfAll() {
        Checks.sentence("How far all images reach together");
        Checks.due("the shortest", 1, Checks.folded(1).width());
        Checks.due("the longest", 60, Checks.folded(60).width());
        Checks.due("halves", 30, Checks.folded(60, 30, 1).width());
        // 0 .. 1 and -58 .. 1
        Checks.due("left of 0", 59, Checks.folded(60, 1, 1).width());
        // 0 .. 59 and 58 .. 59
        Checks.due("right of 0", 59, Checks.folded(60, 59, 1).width());
        // 0 .. 3, 2 .. 3, 2 .. 4, -1 .. 4, -1 .. 0, -4 .. 0, -4 .. -2
        Checks.due("to both sides", 8, Checks.folded(18, 3, 1, 4, 1, 6, 1, 11, 1, 12, 1, 16, 1).width());
        // 0 .. 2, -2 .. 2, -2 .. 4: the last one alone is as wide as all
        Checks.due("the last one is widest", 6, Checks.folded(12, 2, 1, 6, 1).width());
    }

    private static void thicknessOfAStretch() {
        Checks.sentence("The greatest number of images that have one stretch from a place to the next in common");
        Checks.due("the shortest", 1, Checks.folded(1).thickness());
        Checks.due("the longest", 1, Checks.folded(60).thickness());
        Checks.due("seven", 7, Checks.folded(7, 1, 1, 2, 1, 3, 1, 4, 1, 5, 1, 6, 1).thickness());
        // 0 .. 2, -2 .. 2, -2 .. 0: at the point 0 three meet, over no stretch more than two lie
        Checks.due("a point is no stretch", 2, Checks.folded(8, 2, 1, 6, 1).thickness());
        // 0 .. 2, -2 .. 2, -2 .. 1: three over 0 .. 1
        Checks.due("one stretch will do", 3, Checks.folded(9, 2, 1, 6, 1).thickness());
        // 0 .. 2, 0 .. 2, 0 .. 4, 2 .. 4, 2 .. 6: each two next to each other overlap, three over 0 .. 2 and 2 .. 4
        Checks.due("not of all, of one stretch", 3, Checks.folded(14, 2, 0, 4, 0, 8, 0, 10, 0).thickness());
        // 0 .. 1, -3 .. 1, -3 .. -2, -4 .. -2: three over the one stretch from -3 to -2, left of 0
        Checks.due("left of 0", 3, Checks.folded(8, 1, 0, 5, 0, 6, 0).thickness());
    }
}

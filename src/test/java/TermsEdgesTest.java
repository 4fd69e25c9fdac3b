/** The section Terms: each sentence that draws a boundary has a test of its own here. */
public final class TermsEdgesTest {
    public static void main(String[] args) {
        stripLengths();
        creasePlaces();
        atMostSixCreases();
        marks();
        segmentsFromTheLeft();
        foldedToAndFro();
        imageFromTheLesserEnd();
        frontUp();
        overlapIsMoreThanAPoint();
        creaseLiesWhereItsSegmentsMeet();
        noneIsNone();
        Checks.end();
    }

    private static void stripLengths() {
        Checks.sentence("A STRIP is 1 to 60 long (at first 1)");
        FoldLaboratory x = new FoldLaboratory();
        Checks.due("at first", 1, x.count(0));
        for (int length = 1; length <= 60; length++) {
            x.strip(length);
            Checks.due("strip(" + length + ")", length, x.count(0));
        }
        for (int length : new int[] {0, 61}) {
            Checks.wrongArgument("strip(" + length + ")", () -> {
                x.strip(length);
                return 0;
            });
        }
    }

    private static void creasePlaces() {
        Checks.sentence("CREASES at whole places 1 .. length - 1");
        for (int length = 1; length <= 60; length++) {
            FoldLaboratory x = Checks.folded(length);
            int end = length;
            Checks.wrongArgument(length + " long, crease(0, 1)", () -> x.crease(0, 1));
            Checks.wrongArgument(length + " long, crease(" + end + ", 1)", () -> x.crease(end, 1));
            if (length > 1) {
                Checks.due(length + " long, crease(1, 1)", 1, x.crease(1, 1));
                Checks.due("its place", 1, x.segment(0, 1));
            }
            if (length > 2) {
                Checks.due(length + " long, crease(" + (end - 1) + ", 1)", 2, x.crease(end - 1, 1));
                Checks.due("its place", length - 1, x.segment(1, 1));
            }
        }
    }

    private static void atMostSixCreases() {
        Checks.sentence("it has at most six CREASES");
        FoldLaboratory full = Checks.folded(7);
        for (int place = 1; place <= 6; place++) {
            Checks.due("crease " + place + " of 6 on 7", place, full.crease(place, 2));
        }
        FoldLaboratory x = Checks.folded(60, 1, 1, 10, 1, 20, 1, 30, 1, 40, 1, 59, 1);
        Checks.due("six on 60", 6, x.count(1));
        Checks.unsupported("a seventh", () -> x.crease(50, 1));
        Checks.due("still six", 6, x.count(1));
    }

    private static void marks() {
        Checks.sentence("each with a MARK: 0 FREE, 1 MOUNTAIN, 2 VALLEY");
        for (int mark = 0; mark <= 2; mark++) {
            FoldLaboratory x = Checks.folded(4, 2, mark);
            Checks.due("the mark", mark, x.segment(0, 5));
            Checks.due("mark " + mark + " is free", mark == 0 ? 1 : 0, x.count(2));
            Checks.due("mark " + mark + ", orders", mark == 0 ? 2 : 1, x.orders());
            Checks.due("mark " + mark + ", 1 above 0 in order 0", mark == 1 ? 0 : 1, x.above(0, 1, 0));
        }
    }

    private static void segmentsFromTheLeft() {
        Checks.sentence("Between them lie its SEGMENTS, numbered from 0 on from the left");
        FoldLaboratory none = Checks.folded(60);
        Checks.due("no crease: from", 0, none.segment(0, 0));
        Checks.due("no crease: to", 60, none.segment(0, 1));
        Checks.outOfBounds("no crease, no segment 1", () -> none.segment(1, 0));
        FoldLaboratory six = Checks.folded(60, 59, 1, 50, 1, 33, 1, 32, 1, 7, 1, 1, 1);
        int[] ends = {0, 1, 7, 32, 33, 50, 59, 60};
        for (int i = 0; i < 7; i++) {
            Checks.due("from, of " + i, ends[i], six.segment(i, 0));
            Checks.due("to, of " + i, ends[i + 1], six.segment(i, 1));
        }
        Checks.outOfBounds("six creases, no segment 7", () -> six.segment(7, 0));
    }

    private static void foldedToAndFro() {
        Checks.sentence("segment 0 goes from 0 to the right; each next one begins where the one before ends, "
                + "and goes the other way");
        // to 1, back to -58
        FoldLaboratory left = Checks.folded(60, 1, 1);
        Checks.due("the farthest left", -58, left.whereIs(60));
        // to 59, back to 58
        FoldLaboratory right = Checks.folded(60, 59, 1);
        Checks.due("the farthest right", 59, right.whereIs(59));
        Checks.due("one back", 58, right.whereIs(60));
        // lengths 3 1 2 5 1 4 2: to 3, 2, 4, -1, 0, -4, -2
        FoldLaboratory x = Checks.folded(18, 3, 1, 4, 1, 6, 1, 11, 1, 12, 1, 16, 1);
        int[] bends = {3, 2, 4, -1, 0, -4, -2};
        for (int i = 0; i < 7; i++) {
            Checks.due("where " + i + " ends", bends[i], x.whereIs(x.segment(i, 1)));
        }
    }

    private static void imageFromTheLesserEnd() {
        Checks.sentence("The IMAGE of a segment is from the lesser to the greater end of its");
        FoldLaboratory x = Checks.folded(18, 3, 1, 4, 1, 6, 1, 11, 1, 12, 1, 16, 1);
        int[] lows = {0, 2, 2, -1, -1, -4, -4};
        int[] highs = {3, 3, 4, 4, 0, 0, -2};
        for (int i = 0; i < 7; i++) {
            Checks.due("low of " + i, lows[i], x.segment(i, 2));
            Checks.due("high of " + i, highs[i], x.segment(i, 3));
        }
    }

    private static void frontUp() {
        Checks.sentence("Segment 0 has its FRONT UP (unless the strip is TURNED over: then not), "
                + "each next one the other face than the one before");
        FoldLaboratory x = Checks.folded(7, 1, 1, 2, 2, 3, 0, 4, 1, 5, 2, 6, 0);
        for (int turns = 0; turns < 3; turns++) {
            for (int i = 0; i < 7; i++) {
                Checks.due(turns + " turns, segment " + i, (i + turns + 1) % 2, x.segment(i, 4));
            }
            x.turn();
        }
    }

    private static void overlapIsMoreThanAPoint() {
        Checks.sentence("Two segments OVERLAP if their images have more than a point in common");
        // 0 lies on 0 .. 2, and 2 on -3 .. -1, on -2 .. 0, on -2 .. 1, on 0 .. 2, on 0 .. 3
        overlap("apart", false, Checks.folded(9, 2, 0, 7, 0));
        overlap("a point", false, Checks.folded(8, 2, 0, 6, 0));
        overlap("one stretch", true, Checks.folded(9, 2, 0, 6, 0));
        overlap("alike", true, Checks.folded(6, 2, 0, 4, 0));
        overlap("within", true, Checks.folded(7, 2, 0, 4, 0));
        // 0 on 0 .. 3, 1 on 2 .. 3, 2 on 2 .. 4, 3 on 3 .. 4: 0 and 1 meet 3 at a point from the other side
        FoldLaboratory right = Checks.folded(7, 3, 1, 4, 2, 6, 1);
        Checks.due("0 and 3 meet at 3", -1, right.above(0, 0, 3));
        Checks.due("1 and 3 meet at 3", -1, right.above(0, 3, 1));
        Checks.due("2 and 3 lie over 3 .. 4", false, right.above(0, 2, 3) == -1);
    }

    private static void overlap(String name, boolean want, FoldLaboratory x) {
        Checks.due(name + ": 0 and 2", want, x.above(0, 0, 2) != -1);
        Checks.due(name + ": 2 and 0", want, x.above(0, 2, 0) != -1);
    }

    private static void creaseLiesWhereItsSegmentsMeet() {
        Checks.sentence("A crease lies at the place where its two segments meet");
        // 2 2 n: the crease of 0 and 1 lies at 2, and 2 goes from 0 to n: past it, 2 can't lie between 0 and 1
        Checks.due("2 2 1: not as far", 6, Checks.folded(5, 2, 0, 4, 0).orders());
        Checks.due("2 2 2: just as far", 6, Checks.folded(6, 2, 0, 4, 0).orders());
        Checks.due("2 2 3: past it", 4, Checks.folded(7, 2, 0, 4, 0).orders());
    }

    private static void noneIsNone() {
        Checks.sentence("NONE = -1");
        Checks.due("NONE", -1, FoldLaboratory.NONE);
        Checks.due("count(4)", FoldLaboratory.NONE, new FoldLaboratory().count(4));
    }
}

/** Promises 1 to 5: a new object, strip, crease, turn, count. */
public final class StripTest {
    public static void main(String[] args) {
        newObject();
        strip();
        creaseOrdinary();
        creaseRefused();
        creaseFull();
        turn();
        count();
        Checks.end();
    }

    private static void newObject() {
        FoldLaboratory x = new FoldLaboratory();
        Checks.due("new: length", 1, x.count(0));
        Checks.due("new: creases", 0, x.count(1));
        Checks.due("new: free", 0, x.count(2));
        Checks.due("new: typed", 0, x.count(3));
        Checks.due("new: front up", 1, x.segment(0, 4));
        Checks.due("new: image low", 0, x.segment(0, 2));
        Checks.due("new: image high", 1, x.segment(0, 3));
        Checks.due("new: width", 1, x.width());
        Checks.due("new: thickness", 1, x.thickness());
        Checks.due("new: whereIs", 1, x.whereIs(1));
        Checks.due("new: run", 0, x.run());
        Checks.due("new: marks", 1, x.marks());
        Checks.wrongArgument("new: no crease fits on", () -> x.crease(1, 0));
        Checks.due("new: turn", true, x.turn());
    }

    private static void strip() {
        FoldLaboratory x = Checks.folded(10, 3, 0, 6, 1);
        x.turn();
        x.type('t');
        for (int length : new int[] {0, -1, 61, Integer.MIN_VALUE, Integer.MAX_VALUE}) {
            Checks.wrongArgument("strip(" + length + ")", () -> {
                x.strip(length);
                return 0;
            });
        }
        Checks.due("a refused strip leaves the length", 10, x.count(0));
        Checks.due("a refused strip leaves the creases", 2, x.count(1));
        Checks.due("a refused strip leaves it turned", 0, x.segment(0, 4));
        x.strip(60);
        Checks.due("strip(60): length", 60, x.count(0));
        Checks.due("strip(60): creases", 0, x.count(1));
        Checks.due("strip(60): free", 0, x.count(2));
        Checks.due("strip(60): front up", 1, x.segment(0, 4));
        Checks.due("strip(60): image", 60, x.segment(0, 3));
        Checks.due("strip(60): orders", 1, x.orders());
        Checks.due("strip leaves the text", 1, x.count(3));
        x.strip(1);
        Checks.due("strip(1): length", 1, x.count(0));
        Checks.due("strip(1): width", 1, x.width());
    }

    private static void creaseOrdinary() {
        FoldLaboratory x = Checks.folded(10);
        Checks.due("the first", 1, x.crease(5, 1));
        Checks.due("left of it", 2, x.crease(1, 2));
        Checks.due("right of it", 3, x.crease(9, 0));
        Checks.due("between", 4, x.crease(3, 0));
        int[] places = {0, 1, 3, 5, 9, 10};
        int[] marks = {2, 0, 1, 0, -1};
        for (int i = 0; i < 5; i++) {
            Checks.due("left end " + i, places[i], x.segment(i, 0));
            Checks.due("right end " + i, places[i + 1], x.segment(i, 1));
            Checks.due("mark " + i, marks[i], x.segment(i, 5));
        }
        Checks.due("marked anew", 4, x.crease(3, 2));
        Checks.due("its mark", 2, x.segment(1, 5));
        Checks.due("one less", 3, x.crease(1, 3));
        Checks.due("the next one's left end", 0, x.segment(0, 0));
        Checks.due("the next one's right end", 3, x.segment(0, 1));
        Checks.due("the next one's mark", 2, x.segment(0, 5));
        Checks.due("the last goes", 2, x.crease(9, 3));
        Checks.due("two", 1, x.crease(3, 3));
        Checks.due("three", 0, x.crease(5, 3));
        Checks.due("the whole strip", 10, x.segment(0, 1));
    }

    private static void creaseRefused() {
        FoldLaboratory x = Checks.folded(8, 4, 1);
        for (int place : new int[] {0, 8, 9, -1, Integer.MIN_VALUE, Integer.MAX_VALUE}) {
            Checks.wrongArgument("crease(" + place + ", 1)", () -> x.crease(place, 1));
            Checks.wrongArgument("crease(" + place + ", 3)", () -> x.crease(place, 3));
        }
        for (int mark : new int[] {-1, 4, Integer.MIN_VALUE, Integer.MAX_VALUE}) {
            Checks.wrongArgument("crease(4, " + mark + ")", () -> x.crease(4, mark));
            Checks.wrongArgument("crease(5, " + mark + ")", () -> x.crease(5, mark));
        }
        Checks.wrongArgument("crease(3, 3) with none there", () -> x.crease(3, 3));
        Checks.wrongArgument("crease(5, 3) with none there", () -> x.crease(5, 3));
        Checks.due("all stays", 1, x.count(1));
        Checks.due("its mark stays", 1, x.segment(0, 5));
        Checks.due("place 1 will do", 2, x.crease(1, 0));
        Checks.due("place 7 will do", 3, x.crease(7, 0));
    }

    private static void creaseFull() {
        FoldLaboratory x = Checks.folded(9, 1, 0, 2, 0, 3, 0, 4, 0, 5, 0, 6, 0);
        Checks.due("six", 6, x.count(1));
        for (int mark = 0; mark < 3; mark++) {
            int m = mark;
            Checks.unsupported("a seventh, mark " + m, () -> x.crease(7, m));
        }
        Checks.wrongArgument("a seventh that goes", () -> x.crease(7, 3));
        Checks.wrongArgument("a seventh beyond the strip", () -> x.crease(9, 1));
        Checks.wrongArgument("a seventh without a mark", () -> x.crease(7, 4));
        Checks.due("six still", 6, x.count(1));
        Checks.due("one of six gets a mark", 6, x.crease(6, 2));
        Checks.due("one of six goes", 5, x.crease(1, 3));
        Checks.due("then another fits", 6, x.crease(8, 1));
        Checks.due("the last one's mark", 1, x.segment(5, 5));
    }

    private static void turn() {
        FoldLaboratory x = Checks.folded(4, 1, 2, 3, 1);
        Checks.due("orders before", 0, x.above(0, 0, 1));
        Checks.due("turned", true, x.turn());
        Checks.due("front of 0", 0, x.segment(0, 4));
        Checks.due("front of 1", 1, x.segment(1, 4));
        Checks.due("front of 2", 0, x.segment(2, 4));
        Checks.due("the images stay", -1, x.segment(1, 2));
        Checks.due("the marks stay", 2, x.segment(0, 5));
        Checks.due("the order is upside down", 1, x.above(0, 0, 1));
        Checks.due("a crease leaves it turned", 3, x.crease(2, 0));
        Checks.due("still", 0, x.segment(0, 4));
        Checks.due("back", false, x.turn());
        Checks.due("front of 0 again", 1, x.segment(0, 4));
    }

    private static void count() {
        FoldLaboratory x = Checks.folded(33, 5, 0, 9, 1, 20, 0, 30, 2);
        x.type(' ');
        x.type('q');
        Checks.due("length", 33, x.count(0));
        Checks.due("creases", 4, x.count(1));
        Checks.due("free", 2, x.count(2));
        Checks.due("typed", 2, x.count(3));
        for (int what : new int[] {-1, 4, Integer.MIN_VALUE, Integer.MAX_VALUE}) {
            Checks.due("count(" + what + ")", -1, x.count(what));
        }
        x.crease(5, 1);
        Checks.due("one less is free", 1, x.count(2));
        x.crease(20, 3);
        Checks.due("none is free", 0, x.count(2));
    }
}

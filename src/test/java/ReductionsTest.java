/** Promises 10 to 12: foldable, steps, step. */
public final class ReductionsTest {
    public static void main(String[] args) {
        noCrease();
        twoLengths();
        firstAndLast();
        pleats();
        pleatLength();
        stuck();
        free();
        refused();
        Checks.end();
    }

    private static void expect(String name, FoldLaboratory x, int folds, int... kindsAndPlaces) {
        Checks.due(name + ": foldable", folds, x.foldable());
        Checks.due(name + ": steps", kindsAndPlaces.length / 2, x.steps());
        for (int i = 0; i < kindsAndPlaces.length / 2; i++) {
            Checks.due(name + ": step(" + i + ", 0)", kindsAndPlaces[2 * i], x.step(i, 0));
            Checks.due(name + ": step(" + i + ", 1)", kindsAndPlaces[2 * i + 1], x.step(i, 1));
        }
        Checks.outOfBounds(name + ": one step more", () -> x.step(kindsAndPlaces.length / 2, 0));
    }

    private static void noCrease() {
        expect("no crease", Checks.folded(60), 1);
    }

    private static void twoLengths() {
        expect("first is less", Checks.folded(5, 2, 1), 1, 1, 2);
        expect("alike", Checks.folded(4, 2, 1), 1, 1, 2);
        expect("last is less", Checks.folded(5, 3, 2), 1, 2, 3);
    }

    private static void firstAndLast() {
        expect("rising", Checks.folded(6, 1, 1, 3, 1), 1, 1, 1, 1, 3);
        expect("falling", Checks.folded(6, 3, 1, 5, 1), 1, 2, 5, 2, 3);
        expect("the first goes before the last", Checks.folded(7, 2, 1, 5, 1), 1, 1, 2, 2, 5);
        expect("the last is alike", Checks.folded(7, 3, 1, 5, 1), 1, 2, 5, 2, 3);
    }

    private static void pleats() {
        expect("valley, mountain", Checks.folded(9, 4, 2, 5, 1), 1, 3, 4);
        expect("mountain, valley", Checks.folded(9, 4, 1, 5, 2), 1, 3, 4);
        // 4 2 2 2: an end goes before a pleat
        expect("2 before 3", Checks.folded(10, 4, 1, 6, 2, 8, 1), 1, 2, 8, 2, 6, 2, 4);
        // 5 2 3 1 4: the 2 comes before the 1
        expect("the leftmost", Checks.folded(15, 5, 1, 7, 2, 10, 1, 11, 2), 1, 3, 5, 3, 10);
        // 5 2 3 1 4: between like marks the 2 can't
        expect("not between like marks", Checks.folded(15, 5, 1, 7, 1, 10, 1, 11, 2), 0, 3, 10);
        // 5 2 2 4: the middle one isn't above its neighbour, which is as long
        expect("as long as the neighbour", Checks.folded(13, 5, 1, 7, 2, 9, 2), 1, 3, 5, 2, 9);
        // 2 3 1 4: an end goes before a pleat
        expect("1 before 3", Checks.folded(10, 2, 1, 5, 2, 6, 1), 1, 1, 2, 3, 5);
    }

    /** What a pleat leaves is as long as the first less the second, and the third. */
    private static void pleatLength() {
        // 5 2 4 6: 5 - 2 + 4 = 7 is above 6
        expect("the sum is above the next", Checks.folded(17, 5, 1, 7, 2, 11, 1), 1, 3, 5, 2, 11);
        // 5 2 4 8: 7 isn't above 8
        expect("the sum isn't above the next", Checks.folded(19, 5, 1, 7, 2, 11, 1), 1, 3, 5, 1, 11);
        // 5 2 4 7: 7 isn't above 7
        expect("the sum is the next", Checks.folded(18, 5, 1, 7, 2, 11, 1), 1, 3, 5, 1, 11);
    }

    private static void stuck() {
        expect("like marks", Checks.folded(9, 4, 2, 5, 2), 0);
        expect("like marks, mountains", Checks.folded(9, 4, 1, 5, 1), 0);
        // 3 1 2 3, and 3 2 1 2: no end can go, and the least is between like marks
        expect("four, rising", Checks.folded(9, 3, 1, 4, 1, 6, 1), 0);
        expect("four, falling", Checks.folded(8, 3, 1, 5, 1, 6, 1), 0);
    }

    private static void free() {
        FoldLaboratory x = Checks.folded(9, 4, 2, 5, 0);
        Checks.due("free: foldable", -1, x.foldable());
        Checks.due("free: steps", -1, x.steps());
        for (int i = -1; i < 3; i++) {
            int n = i;
            Checks.outOfBounds("free: step(" + i + ", 0)", () -> x.step(n, 0));
            Checks.outOfBounds("free: step(" + i + ", 2)", () -> x.step(n, 2));
        }
        x.crease(5, 1);
        expect("no more free", x, 1, 3, 4);
        x.crease(4, 0);
        Checks.outOfBounds("free again", () -> x.step(0, 0));
    }

    private static void refused() {
        FoldLaboratory x = Checks.folded(6, 1, 1, 3, 1);
        for (int i : new int[] {-1, 2, 6, Integer.MIN_VALUE, Integer.MAX_VALUE}) {
            Checks.outOfBounds("step(" + i + ", 0)", () -> x.step(i, 0));
            Checks.outOfBounds("step(" + i + ", 2)", () -> x.step(i, 2));
        }
        for (int what : new int[] {-1, 2, Integer.MIN_VALUE, Integer.MAX_VALUE}) {
            Checks.wrongArgument("step(1, " + what + ")", () -> x.step(1, what));
        }
        x.turn();
        expect("turned", x, 1, 1, 1, 1, 3);
    }
}

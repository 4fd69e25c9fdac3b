/** Promises 13 to 16 and the layer orders: each sentence with a boundary has a test of its own here. */
public final class LayersEdgesTest {
    private static final int LEAST = Integer.MIN_VALUE;
    private static final int MOST = Integer.MAX_VALUE;

    public static void main(String[] args) {
        noRoundOfThree();
        roundOnlyOfThoseThatOverlap();
        valley();
        mountain();
        freeEither();
        noneAcrossACrease();
        acrossOnlyWhereInside();
        twoCreasesAtOnePlace();
        creasesAtTwoPlaces();
        creasesOnTwoSidesOfAPlace();
        numberedFromNoughtOn();
        pairsByBThenByA();
        pairsThatOverlapAlone();
        howManyOrders();
        aboveOrBelow();
        aboveOfOnesThatDontOverlap();
        aboveOfOne();
        aboveWithoutSuchAnOrder();
        aboveWithoutSuchASegment();
        layerFromTheLowest();
        layerOverAStretch();
        layerOfNotSoMany();
        layerWithoutSuchAnOrder();
        marksOfTheFree();
        marksWithoutAFreeCrease();
        marksWithoutAnOrder();
        Checks.end();
    }

    private static FoldLaboratory alike(int segments, int mark) {
        FoldLaboratory x = Checks.folded(segments);
        for (int place = 1; place < segments; place++) {
            x.crease(place, mark);
        }
        return x;
    }

    private static void noRoundOfThree() {
        Checks.sentence("of three that overlap two by two, none is above another one that is above the third one "
                + "that is above the first");
        // of the 8 ways to say above or below for three pairs two go round
        FoldLaboratory x = alike(3, 0);
        Checks.due("orders", 6, x.orders());
        for (int n = 0; n < 6; n++) {
            int round = x.above(n, 0, 1) + x.above(n, 1, 2) + x.above(n, 2, 0);
            Checks.due("order " + n + " goes round", false, round == 0 || round == 3);
        }
        // 0 above 1 above 2, so 0 is above 2
        FoldLaboratory marked = Checks.folded(3, 1, 1, 2, 2);
        Checks.due("marked, orders", 1, marked.orders());
        Checks.due("marked, 0 and 2", 1, marked.above(0, 0, 2));
    }

    private static void roundOnlyOfThoseThatOverlap() {
        Checks.sentence("of three that overlap two by two");
        // 0 and 2 have a point in common, so that each of the two pairs may be either
        Checks.due("two pairs", 4, Checks.folded(8, 2, 0, 6, 0).orders());
    }

    private static void valley() {
        Checks.sentence("at a valley, the right one of its segments is above the left one if the left one has its "
                + "front up, else below");
        marked(2);
    }

    private static void mountain() {
        Checks.sentence("at a mountain it is the other way round");
        marked(1);
    }

    /** Each of the six creases by itself has the mark, turned and not, and the others are free. */
    private static void marked(int mark) {
        for (int crease = 0; crease < 6; crease++) {
            FoldLaboratory x = Checks.folded(14, 1, 0, 4, 0, 5, 0, 9, 0, 10, 0, 12, 0);
            x.crease(x.segment(crease, 1), mark);
            for (int turns = 0; turns < 3; turns++) {
                boolean rightAbove = (x.segment(crease, 4) == 1) == (mark == 2);
                int orders = x.orders();
                Checks.due("crease " + crease + ", some orders", true, orders > 0);
                for (int n = 0; n < orders; n++) {
                    Checks.due("crease " + crease + ", " + turns + " turns, order " + n, rightAbove ? 1 : 0,
                            x.above(n, crease + 1, crease));
                }
                x.turn();
            }
        }
    }

    private static void freeEither() {
        Checks.sentence("at a free crease it may be either");
        for (int crease = 0; crease < 6; crease++) {
            FoldLaboratory x = alike(7, 0);
            boolean below = false;
            boolean above = false;
            for (int n = 0; n < x.orders(); n++) {
                below |= x.above(n, crease, crease + 1) == 0;
                above |= x.above(n, crease, crease + 1) == 1;
            }
            Checks.due("crease " + crease + ", below and above", true, below && above);
        }
    }

    private static void noneAcrossACrease() {
        Checks.sentence("no segment whose image has a crease's place inside it (not at an end) is above one of the "
                + "crease's segments and below the other one");
        // 2 2 3: segment 2 goes past the crease of 0 and 1, so it lies below or above them both
        for (int mark = 1; mark <= 2; mark++) {
            FoldLaboratory x = Checks.folded(7, 2, mark, 4, 0);
            Checks.due("a later segment, mark " + mark, 2, x.orders());
            for (int n = 0; n < 2; n++) {
                Checks.due("order " + n, x.above(n, 2, 0), x.above(n, 2, 1));
            }
        }
        // 3 2 2: segment 0 goes past the crease of 1 and 2
        for (int mark = 1; mark <= 2; mark++) {
            FoldLaboratory x = Checks.folded(7, 3, 0, 5, mark);
            Checks.due("an earlier segment, mark " + mark, 2, x.orders());
            for (int n = 0; n < 2; n++) {
                Checks.due("order " + n, x.above(n, 0, 1), x.above(n, 0, 2));
            }
        }
        Checks.due("4 1 4, two valleys", 0, Checks.folded(9, 4, 2, 5, 2).orders());
        Checks.due("4 1 4, two mountains", 0, Checks.folded(9, 4, 1, 5, 1).orders());
        Checks.due("4 1 4, one of each", 1, Checks.folded(9, 4, 1, 5, 2).orders());
    }

    private static void acrossOnlyWhereInside() {
        Checks.sentence("inside it (not at an end)");
        // 2 2 2: the crease of 0 and 1 is at an end of 2; 2 2 1: 2 does not come so far
        for (int last = 1; last <= 2; last++) {
            FoldLaboratory x = Checks.folded(4 + last, 2, 0, 4, 0);
            boolean between = false;
            for (int n = 0; n < x.orders(); n++) {
                between |= x.above(n, 2, 0) != x.above(n, 2, 1);
            }
            Checks.due("2 2 " + last + ", 2 may lie between", true, between);
        }
        // 0 on 0 .. 2, 1 on -2 .. 2, 2 on -2 .. 1: neither 0 nor 2 comes as far as the crease of the other two
        Checks.due("2 4 3, none comes so far", 6, Checks.folded(9, 2, 0, 6, 0).orders());
    }

    private static void twoCreasesAtOnePlace() {
        Checks.sentence("of two creases at one place, whose four segments all overlap, it is not so that just one of "
                + "the segments of the second crease is between the segments of the first one");
        Checks.due("four alike, 24 ways less 8", 16, alike(4, 0).orders());
        bothOrNoneBetween("four alike", alike(4, 0), 0, 2);
        bothOrNoneBetween("six alike, the first two", alike(6, 0), 0, 2);
        bothOrNoneBetween("six alike, the last two", alike(6, 0), 2, 4);
        bothOrNoneBetween("six alike, the outer two", alike(6, 0), 0, 4);
        bothOrNoneBetween("seven alike, at the left", alike(7, 0), 1, 5);
        // 2 2 1 1 2 2: the creases 0 and 4 lie at 2, and the crease 2 between them on the strip lies at 1
        bothOrNoneBetween("another one elsewhere", Checks.folded(10, 2, 0, 4, 0, 5, 0, 6, 0, 8, 0), 0, 4);
        // 0 on 0 .. 4 and the others on 2 .. 4: of the 16 those go in which 0 is between 1 and 2, whose crease it passes
        Checks.due("4 2 2 2, 16 less 6", 10, Checks.folded(10, 4, 0, 6, 0, 8, 0).orders());
    }

    /** Of the segments of crease j both are between those of crease i, or none: there are orders of either kind. */
    private static void bothOrNoneBetween(String name, FoldLaboratory x, int i, int j) {
        boolean none = false;
        boolean both = false;
        for (int n = 0; n < x.orders(); n++) {
            boolean left = x.above(n, j, i) != x.above(n, j, i + 1);
            boolean right = x.above(n, j + 1, i) != x.above(n, j + 1, i + 1);
            Checks.due(name + ", just one in order " + n, false, left != right);
            none |= !left && !right;
            both |= left && right;
        }
        Checks.due(name + ", none may be between", true, none);
        Checks.due(name + ", both may be between", true, both);
    }

    private static void creasesAtTwoPlaces() {
        Checks.sentence("two creases at one place");
        // 3 3 3 2: the creases 0 and 2 lie at 3, and of 24 ways 8 go
        Checks.due("one place", 16, Checks.folded(11, 3, 0, 6, 0, 9, 0).orders());
        // five alike: crease 0 lies at 1 and crease 3 at 0, so that just one of 3 and 4 may be between 0 and 1
        FoldLaboratory x = alike(5, 0);
        boolean justOne = false;
        for (int n = 0; n < x.orders(); n++) {
            boolean three = x.above(n, 3, 0) != x.above(n, 3, 1);
            boolean four = x.above(n, 4, 0) != x.above(n, 4, 1);
            justOne |= three != four;
        }
        Checks.due("two places", true, justOne);
    }

    private static void creasesOnTwoSidesOfAPlace() {
        Checks.sentence("whose four segments all overlap");
        // 0 and 1 on 0 .. 2, 2 on 0 .. 4, 3 and 4 on 2 .. 4: creases 0 and 3 at 2 and at 2, on either side of it
        FoldLaboratory x = Checks.folded(12, 2, 0, 4, 0, 8, 0, 10, 0);
        Checks.due("the crease of 0 and 1", 2, x.whereIs(2));
        Checks.due("the crease of 3 and 4", 2, x.whereIs(10));
        Checks.due("0 and 4", -1, x.above(0, 0, 4));
        // 2 lies below or above 0 and 1, and below or above 3 and 4, which may be either among themselves
        Checks.due("orders", 16, x.orders());
    }

    /** Whether order n comes before order m, with the pairs by b, then by a, or else by a, then by b. */
    private static boolean before(FoldLaboratory x, int n, int m, boolean byB) {
        int segments = x.count(1) + 1;
        for (int i = 0; i < segments; i++) {
            for (int j = 0; j < segments; j++) {
                int a = byB ? j : i;
                int b = byB ? i : j;
                if (a < b && x.above(n, a, b) != x.above(m, a, b)) {
                    return x.above(n, a, b) == 0;
                }
            }
        }
        return false;
    }

    private static void numberedFromNoughtOn() {
        Checks.sentence("Layer orders are numbered from 0 on: a is below b in the one that comes first");
        FoldLaboratory x = Checks.folded(4, 2, 0);
        Checks.due("order 0: 0 below 1", 0, x.above(0, 0, 1));
        Checks.due("order 1: 0 above 1", 1, x.above(1, 0, 1));
        x.turn();
        Checks.due("turned, order 0: 0 below 1", 0, x.above(0, 0, 1));
        FoldLaboratory seven = alike(7, 0);
        for (int b = 1; b < 7; b++) {
            Checks.due("the first of 462: 0 below " + b, 0, seven.above(0, 0, b));
            Checks.due("the last of 462: 0 above " + b, 1, seven.above(461, 0, b));
        }
    }

    private static void pairsByBThenByA() {
        Checks.sentence("Pairs come by b, then by a");
        FoldLaboratory x = alike(4, 0);
        boolean other = true;
        for (int n = 0; n + 1 < x.orders(); n++) {
            Checks.due("order " + n + " comes before the next", true, before(x, n, n + 1, true));
            other &= before(x, n, n + 1, false);
        }
        Checks.due("by a, then by b they would come otherwise", false, other);
        FoldLaboratory unlike = Checks.folded(12, 2, 0, 4, 0, 8, 0, 10, 0);
        for (int n = 0; n + 1 < unlike.orders(); n++) {
            Checks.due("unlike lengths, order " + n, true, before(unlike, n, n + 1, true));
        }
    }

    private static void pairsThatOverlapAlone() {
        Checks.sentence("at the first pair of segments that overlap at which they are not alike");
        FoldLaboratory x = Checks.folded(8, 2, 0, 6, 0);
        for (int n = 0; n < 4; n++) {
            Checks.due("order " + n + ", 0 and 1", n / 2, x.above(n, 0, 1));
            Checks.due("order " + n + ", 1 and 2", n % 2, x.above(n, 1, 2));
        }
    }

    private static void howManyOrders() {
        Checks.sentence("How many layer orders there are");
        Checks.due("no pair, one order", 1, Checks.folded(60).orders());
        Checks.due("none", 0, Checks.folded(60, 20, 1, 30, 1).orders());
        Checks.due("one", 1, Checks.folded(60, 20, 1).orders());
        Checks.due("two", 2, Checks.folded(60, 20, 0).orders());
        Checks.due("the most", 462, alike(7, 0).orders());
        Checks.due("turned, as many", 462, turned(alike(7, 0)).orders());
    }

    private static FoldLaboratory turned(FoldLaboratory x) {
        x.turn();
        return x;
    }

    private static void aboveOrBelow() {
        Checks.sentence("In layer order n: 1 if segment a is above segment b, 0 if below");
        FoldLaboratory x = Checks.folded(3, 1, 2, 2, 1);
        for (int a = 0; a < 3; a++) {
            for (int b = 0; b < 3; b++) {
                Checks.due("above(0, " + a + ", " + b + ")", a == b ? -1 : a > b ? 1 : 0, x.above(0, a, b));
            }
        }
        x.turn();
        for (int a = 0; a < 3; a++) {
            for (int b = 0; b < 3; b++) {
                Checks.due("turned, above(0, " + a + ", " + b + ")", a == b ? -1 : a < b ? 1 : 0, x.above(0, a, b));
            }
        }
    }

    private static void aboveOfOnesThatDontOverlap() {
        Checks.sentence("above: NONE if they don't overlap");
        FoldLaboratory point = Checks.folded(8, 2, 0, 6, 0);
        FoldLaboratory apart = Checks.folded(9, 2, 0, 7, 0);
        for (int n = 0; n < 4; n++) {
            Checks.due("a point in common, order " + n, -1, point.above(n, 0, 2));
            Checks.due("the other way", -1, point.above(n, 2, 0));
            Checks.due("nothing in common, order " + n, -1, apart.above(n, 0, 2));
            Checks.due("the other way", -1, apart.above(n, 2, 0));
        }
    }

    private static void aboveOfOne() {
        Checks.sentence("above: NONE if they are one");
        FoldLaboratory x = alike(7, 1);
        for (int a = 0; a < 7; a++) {
            Checks.due("above(0, " + a + ", " + a + ")", -1, x.above(0, a, a));
        }
        Checks.due("of one alone", -1, Checks.folded(5).above(0, 0, 0));
    }

    private static void aboveWithoutSuchAnOrder() {
        Checks.sentence("above: IndexOutOfBoundsException if there is no such order");
        FoldLaboratory x = alike(3, 0);
        for (int n : new int[] {-1, 6, 7, LEAST, MOST}) {
            Checks.outOfBounds("above(" + n + ", 0, 1)", () -> x.above(n, 0, 1));
            Checks.outOfBounds("above(" + n + ", 1, 1)", () -> x.above(n, 1, 1));
        }
        Checks.due("the last one", 1, x.above(5, 0, 1));
        FoldLaboratory apart = Checks.folded(9, 2, 1, 7, 1);
        Checks.outOfBounds("two that don't overlap", () -> apart.above(1, 0, 2));
        FoldLaboratory none = Checks.folded(9, 4, 2, 5, 2);
        Checks.outOfBounds("of none, above(0, 0, 1)", () -> none.above(0, 0, 1));
        Checks.outOfBounds("of none, above(0, 0, 0)", () -> none.above(0, 0, 0));
        FoldLaboratory fewer = alike(7, 0);
        Checks.due("462 orders", 1, fewer.above(461, 0, 1));
        Checks.outOfBounds("of 462", () -> fewer.above(462, 0, 1));
        fewer.crease(1, 1);
        Checks.outOfBounds("of fewer", () -> fewer.above(461, 0, 1));
    }

    private static void aboveWithoutSuchASegment() {
        Checks.sentence("above: IndexOutOfBoundsException if there is no such segment");
        FoldLaboratory x = alike(3, 0);
        for (int s : new int[] {-1, 3, 6, 7, LEAST, MOST}) {
            Checks.outOfBounds("above(0, " + s + ", 1)", () -> x.above(0, s, 1));
            Checks.outOfBounds("above(0, 1, " + s + ")", () -> x.above(0, 1, s));
            Checks.outOfBounds("above(0, " + s + ", " + s + ")", () -> x.above(0, s, s));
            Checks.outOfBounds("above(9, " + s + ", 1)", () -> x.above(9, s, 1));
        }
        FoldLaboratory seven = alike(7, 0);
        Checks.due("the last of seven", 0, seven.above(0, 0, 6));
        Checks.outOfBounds("the eighth", () -> seven.above(0, 0, 7));
        FoldLaboratory one = Checks.folded(60);
        Checks.outOfBounds("of one alone", () -> one.above(0, 0, 1));
    }

    private static void layerFromTheLowest() {
        Checks.sentence("layer: the segment that is the k-th (0 the lowest)");
        // valley, mountain, valley ..: each next one lies above
        FoldLaboratory x = Checks.folded(7, 1, 2, 2, 1, 3, 2, 4, 1, 5, 2, 6, 1);
        for (int k = 0; k < 7; k++) {
            Checks.due("layer(0, 0, " + k + ")", k, x.layer(0, 0, k));
        }
        x.turn();
        for (int k = 0; k < 7; k++) {
            Checks.due("turned, layer(0, 0, " + k + ")", 6 - k, x.layer(0, 0, k));
        }
        FoldLaboratory three = alike(3, 0);
        // in the orders by their numbers, from the lowest to the highest
        String[] piles = {"012", "021", "201", "102", "120", "210"};
        for (int n = 0; n < 6; n++) {
            for (int k = 0; k < 3; k++) {
                Checks.due("layer(" + n + ", 0, " + k + ")", piles[n].charAt(k) - '0', three.layer(n, 0, k));
            }
        }
    }

    private static void layerOverAStretch() {
        Checks.sentence("layer: of those that lie over the stretch from a folded place to the next one");
        // 0 on 0 .. 2, 1 on -2 .. 2 below both, 2 on -2 .. 0
        FoldLaboratory x = Checks.folded(8, 2, 1, 6, 1);
        int[] highest = {2, 2, 0, 0};
        for (int place = -2; place < 2; place++) {
            Checks.due("layer(0, " + place + ", 0)", 1, x.layer(0, place, 0));
            Checks.due("layer(0, " + place + ", 1)", highest[place + 2], x.layer(0, place, 1));
            Checks.due("layer(0, " + place + ", 2)", -1, x.layer(0, place, 2));
        }
        Checks.due("behind the last stretch", -1, x.layer(0, 2, 0));
        Checks.due("before the first stretch", -1, x.layer(0, -3, 0));
        FoldLaboratory flat = Checks.folded(60);
        Checks.due("the first stretch", 0, flat.layer(0, 0, 0));
        Checks.due("the last stretch", 0, flat.layer(0, 59, 0));
        Checks.due("from the end on", -1, flat.layer(0, 60, 0));
        Checks.due("to the beginning", -1, flat.layer(0, -1, 0));
    }

    private static void layerOfNotSoMany() {
        Checks.sentence("layer: NONE if there are not so many");
        FoldLaboratory x = Checks.folded(9, 4, 2, 5, 1);
        Checks.due("the third of three", 2, x.layer(0, 3, 2));
        for (int k : new int[] {3, 4, 7, MOST, -1, LEAST}) {
            Checks.due("of three, layer(0, 3, " + k + ")", -1, x.layer(0, 3, k));
        }
        Checks.due("the second of one", -1, x.layer(0, 2, 1));
        for (int place : new int[] {-1, 7, 60, LEAST, MOST}) {
            for (int k : new int[] {-1, 0, 1, MOST, LEAST}) {
                Checks.due("of none, layer(0, " + place + ", " + k + ")", -1, x.layer(0, place, k));
            }
        }
    }

    private static void layerWithoutSuchAnOrder() {
        Checks.sentence("layer: IndexOutOfBoundsException if there is no such order");
        FoldLaboratory x = alike(3, 0);
        for (int n : new int[] {-1, 6, 7, LEAST, MOST}) {
            Checks.outOfBounds("layer(" + n + ", 0, 0)", () -> x.layer(n, 0, 0));
            Checks.outOfBounds("layer(" + n + ", 0, 3)", () -> x.layer(n, 0, 3));
            Checks.outOfBounds("layer(" + n + ", 60, 0)", () -> x.layer(n, 60, 0));
        }
        Checks.due("the last one", 2, x.layer(5, 0, 0));
        FoldLaboratory none = Checks.folded(9, 4, 2, 5, 2);
        Checks.outOfBounds("of none, layer(0, 0, 0)", () -> none.layer(0, 0, 0));
        Checks.outOfBounds("of none, layer(0, 60, 0)", () -> none.layer(0, 60, 0));
    }

    private static void marksOfTheFree() {
        Checks.sentence("In how many ways the free creases can be marked, mountain or valley, so that there is a "
                + "layer order");
        for (int segments = 1; segments <= 7; segments++) {
            Checks.due(segments + " alike, all of them", 1 << (segments - 1), alike(segments, 0).marks());
        }
        Checks.due("4 1 4, two of four", 2, Checks.folded(9, 4, 0, 5, 0).marks());
        Checks.due("4 1 4, one of two", 1, Checks.folded(9, 4, 1, 5, 0).marks());
        Checks.due("the one that is left is the other mark", 1, Checks.folded(9, 4, 1, 5, 2).marks());
        Checks.due("many orders of one way count once", 2, Checks.folded(4, 1, 2, 2, 2, 3, 0).marks());
        FoldLaboratory x = Checks.folded(9, 4, 0, 5, 0);
        x.marks();
        Checks.due("the creases stay free", 2, x.count(2));
        x.turn();
        Checks.due("turned", 2, x.marks());
    }

    private static void marksWithoutAFreeCrease() {
        Checks.sentence("marks: no free crease, so there is one way, to mark none");
        Checks.due("no crease", 1, Checks.folded(60).marks());
        Checks.due("one, marked", 1, Checks.folded(60, 30, 1).marks());
        Checks.due("six, marked", 1, alike(7, 2).marks());
    }

    private static void marksWithoutAnOrder() {
        Checks.sentence("marks: no way so that there is a layer order");
        Checks.due("none free", 0, Checks.folded(9, 4, 1, 5, 1).marks());
        Checks.due("one free", 0, Checks.folded(14, 4, 2, 5, 2, 11, 0).marks());
    }
}

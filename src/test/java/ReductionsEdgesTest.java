/** Promises 10 to 12 and the reductions 1, 2 and 3: each sentence with a boundary has a test of its own here. */
public final class ReductionsEdgesTest {
    private static final int LEAST = Integer.MIN_VALUE;
    private static final int MOST = Integer.MAX_VALUE;

    public static void main(String[] args) {
        firstIsNotAbove();
        lastIsNotAbove();
        pleatIsNotAboveEither();
        pleatIsBetweenAMountainAndAValley();
        pleatBecomesOne();
        bothCreasesGo();
        firstBeforeLast();
        lastBeforePleat();
        leftmostPleat();
        moreThanOneLength();
        oneLengthIsLeft();
        foldableWithAFreeCrease();
        stepsWithAFreeCrease();
        stepWithAFreeCrease();
        stepOfEach();
        placeOnTheStrip();
        noSuchStep();
        noSuchWhat();
        noStepComesBeforeNoWhat();
        turningChangesNothing();
        Checks.end();
    }

    /** A strip with these lengths, its creases marked by the letters m, v and f. */
    private static FoldLaboratory lengths(String marks, int... lengths) {
        int whole = 0;
        for (int length : lengths) {
            whole += length;
        }
        FoldLaboratory x = Checks.folded(whole);
        int place = 0;
        for (int i = 0; i < marks.length(); i++) {
            place += lengths[i];
            x.crease(place, "fmv".indexOf(marks.charAt(i)));
        }
        return x;
    }

    private static void expect(String name, FoldLaboratory x, int folds, int... kindsAndPlaces) {
        int steps = kindsAndPlaces.length / 2;
        Checks.due(name + ": foldable", folds, x.foldable());
        Checks.due(name + ": steps", steps, x.steps());
        for (int i = 0; i < Math.min(steps, x.steps()); i++) {
            Checks.due(name + ": step(" + i + ", 0)", kindsAndPlaces[2 * i], x.step(i, 0));
            Checks.due(name + ": step(" + i + ", 1)", kindsAndPlaces[2 * i + 1], x.step(i, 1));
        }
    }

    private static void firstIsNotAbove() {
        Checks.sentence("1: the first length isn't above the second one: it goes, with the crease between them");
        // the last is above the one before, so that 2 can't be done
        expect("4 5 6, less", lengths("mm", 4, 5, 6), 1, 1, 4, 1, 9);
        expect("5 5 6, alike", lengths("mm", 5, 5, 6), 1, 1, 5, 1, 10);
        expect("6 5 6, above", lengths("mm", 6, 5, 6), 0);
    }

    private static void lastIsNotAbove() {
        Checks.sentence("2: the last length isn't above the one before: it goes likewise");
        expect("6 5 4, less", lengths("mm", 6, 5, 4), 1, 2, 11, 2, 6);
        expect("6 5 5, alike", lengths("mm", 6, 5, 5), 1, 2, 11, 2, 6);
        expect("6 5 6, above", lengths("vv", 6, 5, 6), 0);
    }

    private static void pleatIsNotAboveEither() {
        Checks.sentence("3: a length that isn't above either of its neighbours");
        expect("5 3 4, less than both", lengths("mv", 5, 3, 4), 1, 3, 5);
        // the pleat of 3 comes before that of 2, if it isn't above the 3 or 4 at its side
        expect("5 3 3 6, as the right one", lengths("mvv", 5, 3, 3, 6), 1, 3, 5, 1, 11);
        expect("5 3 2 6, above the right one", lengths("mvm", 5, 3, 2, 6), 1, 3, 8, 1, 5);
        expect("5 3 2 6, above the right one, and no other", lengths("mvv", 5, 3, 2, 6), 0);
        expect("6 3 3 5, as the left one", lengths("mmv", 6, 3, 3, 5), 1, 3, 9, 2, 6);
        expect("6 2 3 5, above the left one", lengths("mmv", 6, 2, 3, 5), 0);
    }

    private static void pleatIsBetweenAMountainAndAValley() {
        Checks.sentence("3: between a mountain and a valley");
        expect("mountain, valley", lengths("mv", 4, 1, 4), 1, 3, 4);
        expect("valley, mountain", lengths("vm", 4, 1, 4), 1, 3, 4);
        expect("two mountains", lengths("mm", 4, 1, 4), 0);
        expect("two valleys", lengths("vv", 4, 1, 4), 0);
    }

    private static void pleatBecomesOne() {
        Checks.sentence("3: the three become one, as long as the first less the second and the third");
        // 5 - 2 + 4 = 7, beside 6, 7 and 8
        expect("5 2 4 6", lengths("mvm", 5, 2, 4, 6), 1, 3, 5, 2, 11);
        expect("5 2 4 7", lengths("mvm", 5, 2, 4, 7), 1, 3, 5, 1, 11);
        expect("5 2 4 8", lengths("mvm", 5, 2, 4, 8), 1, 3, 5, 1, 11);
        // 4 - 4 + 4 = 4, the least that it can be: 5 | 4 4 4 | 6 is 5 4 6 then
        expect("5 4 4 4 6", lengths("mmvv", 5, 4, 4, 4, 6), 1, 3, 9, 3, 5);
        expect("5 4 4 4 6, like marks left", lengths("mvmm", 5, 4, 4, 4, 6), 0, 3, 5);
    }

    private static void bothCreasesGo() {
        Checks.sentence("3: both creases go");
        // 9 5 8 is left, between the outer two creases
        expect("9 3 1 3 8, unlike ones left", lengths("mvmv", 9, 3, 1, 3, 8), 1, 3, 12, 3, 9);
        expect("9 3 1 3 8, like ones left", lengths("mvmm", 9, 3, 1, 3, 8), 0, 3, 12);
    }

    private static void firstBeforeLast() {
        Checks.sentence("the first of these is done that can be: 1 before 2");
        expect("4 5 4", lengths("mm", 4, 5, 4), 1, 1, 4, 2, 9);
        expect("5 5", lengths("m", 5, 5), 1, 1, 5);
        expect("3 3 3 3 3 3 3", lengths("mvmvmv", 3, 3, 3, 3, 3, 3, 3), 1, 1, 3, 1, 6, 1, 9, 1, 12, 1, 15, 1, 18);
    }

    private static void lastBeforePleat() {
        Checks.sentence("the first of these is done that can be: 1 and 2 before 3");
        expect("5 3 4 2", lengths("mvm", 5, 3, 4, 2), 1, 2, 12, 3, 5);
        expect("2 4 3 5", lengths("mvm", 2, 4, 3, 5), 1, 1, 2, 3, 6);
        expect("5 3 3", lengths("mv", 5, 3, 3), 1, 2, 8, 2, 5);
    }

    private static void leftmostPleat() {
        Checks.sentence("3 at its leftmost place");
        expect("5 2 3 1 4", lengths("mvmv", 5, 2, 3, 1, 4), 1, 3, 5, 3, 10);
        expect("5 1 3 2 4", lengths("mvmv", 5, 1, 3, 2, 4), 1, 3, 5, 3, 9);
        expect("5 1 3 2 4, the left one can't", lengths("mmmv", 5, 1, 3, 2, 4), 0, 3, 9);
        // 9 2 3 1 3 1 9: the leftmost goes each time
        expect("9 2 3 1 3 1 9", lengths("mvmvmv", 9, 2, 3, 1, 3, 1, 9), 1, 3, 9, 3, 14, 3, 18);
    }

    private static void moreThanOneLength() {
        Checks.sentence("As long as there is more than one length");
        expect("one length", lengths("", 1), 1);
        expect("one length, the longest", lengths("", 60), 1);
        expect("two, less", lengths("m", 1, 59), 1, 1, 1);
        expect("two, above", lengths("v", 59, 1), 1, 2, 59);
        expect("three by one pleat", lengths("mv", 9, 1, 9), 1, 3, 9);
        expect("seven", lengths("mmmmmm", 1, 2, 3, 4, 5, 6, 7), 1, 1, 1, 1, 3, 1, 6, 1, 10, 1, 15, 1, 21);
    }

    private static void oneLengthIsLeft() {
        Checks.sentence("The pattern FOLDS if one length is left");
        Checks.due("one at first", 1, lengths("", 7).foldable());
        Checks.due("one", 1, lengths("m", 4, 3).foldable());
        Checks.due("three", 0, lengths("mm", 4, 3, 4).foldable());
        Checks.due("three, after a step", 0, lengths("mmm", 1, 4, 3, 4).foldable());
        Checks.due("three, but for a pleat", 1, lengths("mv", 4, 3, 4).foldable());
        Checks.due("seven", 0, lengths("vvvvvv", 9, 1, 1, 1, 1, 1, 9).foldable());
    }

    private static void foldableWithAFreeCrease() {
        Checks.sentence("foldable: NONE if a crease is free");
        for (int free = 0; free < 6; free++) {
            StringBuilder marks = new StringBuilder("mvmvmv");
            marks.setCharAt(free, 'f');
            FoldLaboratory x = lengths(marks.toString(), 1, 1, 1, 1, 1, 1, 1);
            Checks.due("crease " + free + " is free", -1, x.foldable());
            x.crease(free + 1, 1);
            Checks.due("it is no more", 1, x.foldable());
        }
        Checks.due("all are free", -1, lengths("ff", 4, 1, 4).foldable());
        FoldLaboratory gone = lengths("fv", 4, 1, 4);
        gone.crease(4, 3);
        Checks.due("the free one went", 1, gone.foldable());
    }

    private static void stepsWithAFreeCrease() {
        Checks.sentence("steps: NONE if a crease is free");
        Checks.due("no crease, no step", 0, lengths("", 9).steps());
        Checks.due("stuck at once, no step", 0, lengths("mm", 4, 1, 4).steps());
        for (int free = 0; free < 6; free++) {
            StringBuilder marks = new StringBuilder("mvmvmv");
            marks.setCharAt(free, 'f');
            FoldLaboratory x = lengths(marks.toString(), 1, 1, 1, 1, 1, 1, 1);
            Checks.due("crease " + free + " is free", -1, x.steps());
            x.crease(free + 1, 2);
            Checks.due("it is no more", 6, x.steps());
        }
    }

    private static void stepWithAFreeCrease() {
        Checks.sentence("step: IndexOutOfBoundsException if a crease is free");
        FoldLaboratory x = lengths("mvm", 1, 2, 3, 4);
        Checks.due("before", 1, x.step(0, 0));
        x.crease(6, 0);
        for (int i : new int[] {-2, -1, 0, 1, 2, 3, LEAST, MOST}) {
            for (int what = -1; what <= 2; what++) {
                int w = what;
                Checks.outOfBounds("step(" + i + ", " + what + ")", () -> x.step(i, w));
            }
        }
    }

    private static void stepOfEach() {
        Checks.sentence("step: which it is (what = 0)");
        Checks.due("1", 1, lengths("m", 4, 5).step(0, 0));
        Checks.due("2", 2, lengths("m", 5, 4).step(0, 0));
        Checks.due("3", 3, lengths("mv", 5, 4, 5).step(0, 0));
    }

    private static void placeOnTheStrip() {
        Checks.sentence("step: the place on the strip of the (leftmost) crease that went (1)");
        Checks.due("the least place", 1, lengths("m", 1, 59).step(0, 1));
        Checks.due("the greatest place", 59, lengths("m", 59, 1).step(0, 1));
        Checks.due("of a pleat's two the left one", 29, lengths("mv", 29, 2, 29).step(0, 1));
        // 2 5 1 4 3 3: of the places 2 7 8 12 15 each is told as on the whole strip
        expect("2 5 1 4 3 3", lengths("vmvmv", 2, 5, 1, 4, 3, 3), 1, 1, 2, 2, 15, 2, 12, 3, 7);
    }

    private static void noSuchStep() {
        Checks.sentence("step: IndexOutOfBoundsException if there is none such");
        FoldLaboratory none = lengths("", 60);
        FoldLaboratory stuck = lengths("mmm", 1, 4, 3, 4);
        FoldLaboratory all = lengths("mvmvmv", 1, 1, 1, 1, 1, 1, 1);
        for (int what = 0; what <= 1; what++) {
            int w = what;
            for (int i : new int[] {-1, 6, 7, LEAST, MOST}) {
                Checks.outOfBounds("of none, step(" + i + ", " + what + ")", () -> none.step(i, w));
                Checks.outOfBounds("of one, step(" + i + ", " + what + ")", () -> stuck.step(i, w));
                Checks.outOfBounds("of six, step(" + i + ", " + what + ")", () -> all.step(i, w));
            }
            Checks.outOfBounds("of none, the first", () -> none.step(0, w));
            Checks.outOfBounds("of one, the second", () -> stuck.step(1, w));
        }
        Checks.due("of one, the first", 1, stuck.step(0, 1));
        Checks.due("of six, the last", 6, all.step(5, 1));
        all.strip(5);
        Checks.outOfBounds("of a new strip", () -> all.step(0, 0));
    }

    private static void noSuchWhat() {
        Checks.sentence("step: IllegalArgumentException for another what");
        FoldLaboratory x = lengths("mvm", 1, 2, 3, 4);
        for (int what : new int[] {-1, 2, 3, 256, LEAST, MOST}) {
            for (int i = 0; i < 3; i++) {
                int n = i;
                Checks.refusedAndKept(x, "step(" + i + ", " + what + ")", IllegalArgumentException.class,
                        () -> x.step(n, what));
            }
        }
    }

    private static void noStepComesBeforeNoWhat() {
        Checks.sentence("step: none such, and another what");
        FoldLaboratory x = lengths("mvm", 1, 2, 3, 4);
        for (int what : new int[] {-1, 2, LEAST, MOST}) {
            Checks.outOfBounds("step(-1, " + what + ")", () -> x.step(-1, what));
            Checks.outOfBounds("step(3, " + what + ")", () -> x.step(3, what));
        }
    }

    private static void turningChangesNothing() {
        Checks.sentence("REDUCTIONS work with a row of lengths and the creases between them, not with faces");
        FoldLaboratory x = lengths("mvm", 5, 2, 4, 6);
        x.turn();
        expect("turned", x, 1, 3, 5, 2, 11);
        expect("asked twice", x, 1, 3, 5, 2, 11);
    }
}

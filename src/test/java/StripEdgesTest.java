/** Promises 1 to 5: each sentence that names a boundary case has a test of its own here. */
public final class StripEdgesTest {
    private static final int LEAST = Integer.MIN_VALUE;
    private static final int MOST = Integer.MAX_VALUE;

    public static void main(String[] args) {
        newObject();
        newObjectsShareNothing();
        newStrip();
        stripRefused();
        creaseIsNew();
        creaseIsMarkedAnew();
        creaseGoes();
        creaseAnswersHowMany();
        creaseOffTheStrip();
        creaseWithoutSuchAMark();
        creaseThatCouldNotGo();
        oneCreaseTooMany();
        sixAreNotTooMany();
        wrongComesBeforeFull();
        turnOverAndBack();
        countOfEach();
        countOfAnotherWhat();
        Checks.end();
    }

    private static void newObject() {
        Checks.sentence("A strip of length 1, not turned, nothing typed");
        Checks.due("length", 1, new FoldLaboratory().count(0));
        Checks.due("creases", 0, new FoldLaboratory().count(1));
        Checks.due("free", 0, new FoldLaboratory().count(2));
        Checks.due("typed", 0, new FoldLaboratory().count(3));
        Checks.due("front up", 1, new FoldLaboratory().segment(0, 4));
        Checks.due("turn", true, new FoldLaboratory().turn());
        Checks.due("run", 0, new FoldLaboratory().run());
        Checks.due("whereIs(1)", 1, new FoldLaboratory().whereIs(1));
        Checks.due("width", 1, new FoldLaboratory().width());
        Checks.due("thickness", 1, new FoldLaboratory().thickness());
        Checks.due("foldable", 1, new FoldLaboratory().foldable());
        Checks.due("steps", 0, new FoldLaboratory().steps());
        Checks.due("orders", 1, new FoldLaboratory().orders());
        Checks.due("marks", 1, new FoldLaboratory().marks());
        Checks.due("layer(0, 0, 0)", 0, new FoldLaboratory().layer(0, 0, 0));
        Checks.due("above(0, 0, 0)", -1, new FoldLaboratory().above(0, 0, 0));
    }

    private static void newObjectsShareNothing() {
        Checks.sentence("A new object: nothing of another one's");
        FoldLaboratory first = Checks.folded(30, 4, 0, 8, 1);
        first.turn();
        first.type('t');
        String before = Checks.state(first);
        FoldLaboratory second = new FoldLaboratory();
        Checks.due("the second one's length", 1, second.count(0));
        second.strip(5);
        second.crease(2, 2);
        second.type('q');
        second.run();
        Checks.due("the first one stays", true, before.equals(Checks.state(first)));
    }

    private static void newStrip() {
        Checks.sentence("A new strip without creases, not turned");
        for (int length : new int[] {1, 2, 20, 60}) {
            FoldLaboratory x = Checks.folded(20, 3, 0, 6, 1, 9, 2);
            x.turn();
            x.orders();
            x.strip(length);
            String want = Checks.state(Checks.folded(length));
            Checks.due("strip(" + length + ") is as on a new object", true, want.equals(Checks.state(x)));
            Checks.due("strip(" + length + "), then turn()", true, x.turn());
        }
    }

    private static void stripRefused() {
        Checks.sentence("strip: IllegalArgumentException if the length is not 1 .. 60");
        FoldLaboratory x = Checks.folded(20, 3, 0, 6, 1, 9, 2);
        x.turn();
        x.type('t');
        for (int length : new int[] {0, 61, -1, -60, 256, 257, 65537, LEAST, MOST}) {
            Checks.refusedAndKept(x, "strip(" + length + ")", IllegalArgumentException.class, () -> {
                x.strip(length);
                return 0;
            });
        }
        Checks.due("it is still turned", false, x.turn());
    }

    private static void creaseIsNew() {
        Checks.sentence("A crease at a place gets a mark (a new one, if there is none there)");
        for (int place = 1; place <= 9; place++) {
            for (int mark = 0; mark <= 2; mark++) {
                FoldLaboratory x = Checks.folded(10, 5, 1);
                Checks.due("crease(" + place + ", " + mark + ")", place == 5 ? 1 : 2, x.crease(place, mark));
                int i = place > 5 ? 1 : 0;
                Checks.due("its place", place, x.segment(i, 1));
                Checks.due("its mark", mark, x.segment(i, 5));
                if (place != 5) {
                    Checks.due("the other's place", 5, x.segment(1 - i, 1));
                    Checks.due("the other's mark", 1, x.segment(1 - i, 5));
                }
            }
        }
    }

    private static void creaseIsMarkedAnew() {
        Checks.sentence("A crease at a place gets a mark: one that is there, another mark");
        for (int from = 0; from <= 2; from++) {
            for (int to = 0; to <= 2; to++) {
                FoldLaboratory x = Checks.folded(10, 2, 1, 5, from, 7, 2);
                Checks.due("crease(5, " + to + ")", 3, x.crease(5, to));
                Checks.due("its mark", to, x.segment(1, 5));
                Checks.due("the left one's mark", 1, x.segment(0, 5));
                Checks.due("the right one's mark", 2, x.segment(2, 5));
            }
        }
    }

    private static void creaseGoes() {
        Checks.sentence("with mark 3 it goes");
        for (int gone = 0; gone < 6; gone++) {
            int[] left = new int[10];
            FoldLaboratory x = Checks.folded(9, 1, 0, 2, 1, 3, 2, 5, 0, 7, 1, 8, 2);
            int[] places = {1, 2, 3, 5, 7, 8};
            for (int i = 0, k = 0; i < 6; i++) {
                if (i != gone) {
                    left[2 * k] = places[i];
                    left[2 * k + 1] = i % 3;
                    k++;
                }
            }
            Checks.due("crease(" + places[gone] + ", 3)", 5, x.crease(places[gone], 3));
            String want = Checks.state(Checks.folded(9, left));
            Checks.due("the others stay without " + places[gone], true, want.equals(Checks.state(x)));
        }
    }

    private static void creaseAnswersHowMany() {
        Checks.sentence("crease: how many creases there are");
        FoldLaboratory x = Checks.folded(60);
        Checks.due("one", 1, x.crease(59, 0));
        Checks.due("two", 2, x.crease(1, 0));
        Checks.due("two still", 2, x.crease(1, 1));
        Checks.due("one again", 1, x.crease(59, 3));
        Checks.due("none", 0, x.crease(1, 3));
        Checks.due("one more", 1, x.crease(1, 2));
    }

    private static void creaseOffTheStrip() {
        Checks.sentence("crease: IllegalArgumentException if the place is not 1 .. length - 1");
        FoldLaboratory x = Checks.folded(10, 1, 1, 9, 2);
        for (int place : new int[] {0, 10, 11, -1, -9, 257, LEAST, MOST}) {
            for (int mark = 0; mark <= 3; mark++) {
                int m = mark;
                Checks.refusedAndKept(x, "crease(" + place + ", " + mark + ")", IllegalArgumentException.class,
                        () -> x.crease(place, m));
            }
        }
        FoldLaboratory shortest = new FoldLaboratory();
        for (int place = -1; place <= 2; place++) {
            int p = place;
            Checks.refusedAndKept(shortest, "1 long, crease(" + place + ", 1)", IllegalArgumentException.class,
                    () -> shortest.crease(p, 1));
        }
    }

    private static void creaseWithoutSuchAMark() {
        Checks.sentence("crease: IllegalArgumentException if mark not 0 .. 3");
        FoldLaboratory x = Checks.folded(10, 4, 1);
        for (int mark : new int[] {-1, 4, 5, 256, LEAST, MOST}) {
            Checks.refusedAndKept(x, "crease(4, " + mark + "), one that is there", IllegalArgumentException.class,
                    () -> x.crease(4, mark));
            Checks.refusedAndKept(x, "crease(5, " + mark + "), a new one", IllegalArgumentException.class,
                    () -> x.crease(5, mark));
        }
    }

    private static void creaseThatCouldNotGo() {
        Checks.sentence("crease: IllegalArgumentException if there is none that could go");
        FoldLaboratory none = Checks.folded(10);
        FoldLaboratory x = Checks.folded(10, 4, 0, 6, 1);
        for (int place = 1; place <= 9; place++) {
            int p = place;
            Checks.refusedAndKept(none, "no crease, crease(" + place + ", 3)", IllegalArgumentException.class,
                    () -> none.crease(p, 3));
            if (place != 4 && place != 6) {
                Checks.refusedAndKept(x, "crease(" + place + ", 3)", IllegalArgumentException.class,
                        () -> x.crease(p, 3));
            }
        }
        x.crease(6, 3);
        Checks.refusedAndKept(x, "a second time", IllegalArgumentException.class, () -> x.crease(6, 3));
    }

    private static FoldLaboratory six() {
        return Checks.folded(14, 2, 0, 4, 1, 6, 2, 8, 0, 10, 1, 12, 2);
    }

    private static void oneCreaseTooMany() {
        Checks.sentence("crease: UnsupportedOperationException if there are six and this would be one more");
        FoldLaboratory x = six();
        for (int place = 1; place <= 13; place += 2) {
            for (int mark = 0; mark <= 2; mark++) {
                int p = place;
                int m = mark;
                Checks.refusedAndKept(x, "crease(" + place + ", " + mark + ")", UnsupportedOperationException.class,
                        () -> x.crease(p, m));
            }
        }
        FoldLaboratory five = Checks.folded(14, 2, 0, 4, 1, 6, 2, 8, 0, 10, 1);
        Checks.due("of five there may be one more", 6, five.crease(1, 1));
    }

    private static void sixAreNotTooMany() {
        Checks.sentence("crease: six, and this would be none more");
        for (int place = 2; place <= 12; place += 2) {
            FoldLaboratory x = six();
            Checks.due("crease(" + place + ", 0)", 6, x.crease(place, 0));
            Checks.due("crease(" + place + ", 1)", 6, x.crease(place, 1));
            Checks.due("crease(" + place + ", 2)", 6, x.crease(place, 2));
            Checks.due("crease(" + place + ", 3)", 5, x.crease(place, 3));
            Checks.due("then there is room again", 6, x.crease(13, 1));
            Checks.unsupported("for one", () -> x.crease(1, 1));
        }
    }

    private static void wrongComesBeforeFull() {
        Checks.sentence("crease with six: what is wrong is wrong, not too much");
        FoldLaboratory x = six();
        Checks.refusedAndKept(x, "crease(0, 1)", IllegalArgumentException.class, () -> x.crease(0, 1));
        Checks.refusedAndKept(x, "crease(14, 1)", IllegalArgumentException.class, () -> x.crease(14, 1));
        Checks.refusedAndKept(x, "crease(3, -1)", IllegalArgumentException.class, () -> x.crease(3, -1));
        Checks.refusedAndKept(x, "crease(3, 4)", IllegalArgumentException.class, () -> x.crease(3, 4));
        Checks.refusedAndKept(x, "crease(3, 3)", IllegalArgumentException.class, () -> x.crease(3, 3));
    }

    private static void turnOverAndBack() {
        Checks.sentence("The strip is turned over (or back): whether it is turned now");
        FoldLaboratory x = Checks.folded(10, 3, 1, 6, 2);
        for (int i = 1; i <= 5; i++) {
            Checks.due("turn " + i, i % 2 == 1, x.turn());
            Checks.due("front up after turn " + i, i % 2 == 1 ? 0 : 1, x.segment(0, 4));
        }
        x.crease(4, 0);
        x.crease(3, 3);
        Checks.due("creases come and go, and it stays turned", false, x.turn());
        x.turn();
        x.strip(10);
        Checks.due("a new strip isn't turned", true, x.turn());
    }

    private static void countOfEach() {
        Checks.sentence("0 the length, 1 how many creases, 2 how many of them are free, 3 how many signs are typed");
        FoldLaboratory x = Checks.folded(60);
        int[][] want = {{60, 0, 0, 0}, {60, 1, 1, 1}, {60, 2, 2, 2}, {60, 3, 2, 3}, {60, 4, 2, 4}, {60, 5, 3, 5},
            {60, 6, 4, 6}};
        int[] marks = {0, 0, 1, 2, 0, 0};
        for (int i = 0; i <= 6; i++) {
            for (int what = 0; what < 4; what++) {
                Checks.due(i + " creases, count(" + what + ")", want[i][what], x.count(what));
            }
            if (i < 6) {
                x.crease(10 * i + 5, marks[i]);
                x.type('t');
            }
        }
        x.crease(5, 2);
        Checks.due("a free one gets a mark", 3, x.count(2));
        x.crease(25, 0);
        Checks.due("a marked one gets free", 4, x.count(2));
        x.crease(15, 3);
        Checks.due("a free one goes", 3, x.count(2));
        x.crease(35, 3);
        Checks.due("a marked one goes", 3, x.count(2));
    }

    private static void countOfAnotherWhat() {
        Checks.sentence("count: NONE for another what");
        FoldLaboratory x = Checks.folded(60, 4, 0);
        for (int what : new int[] {-1, 4, 5, -2, 256, LEAST, MOST}) {
            Checks.due("count(" + what + ")", -1, x.count(what));
        }
    }
}

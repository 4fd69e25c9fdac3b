/** Promises 17 and 18: each sentence that names a boundary case has a test of its own here. */
public final class TextEdgesTest {
    private static final int LEAST = Integer.MIN_VALUE;
    private static final int MOST = Integer.MAX_VALUE;

    public static void main(String[] args) {
        oneMoreSign();
        signRefused();
        sixtySigns();
        wrongSignComesBeforeFull();
        textIsGone();
        fullText();
        emptyText();
        blanks();
        blankBehindTheLetter();
        operations();
        turnHasNoNumber();
        numberOfOneToFourDigits();
        fifthDigit();
        noNumber();
        notRead();
        refusedStrip();
        refusedCrease();
        placeInTheText();
        whatWentBeforeStays();
        whatComesBehindIsNotDone();
        Checks.end();
    }

    private static FoldLaboratory twenty() {
        return Checks.folded(20);
    }

    private static void runs(String text, int want) {
        Checks.due("'" + text + "'", want, Checks.runText(twenty(), text));
    }

    private static String times(int many, String text) {
        return text.repeat(many);
    }

    private static void oneMoreSign() {
        Checks.sentence("type: how many are typed");
        FoldLaboratory x = new FoldLaboratory();
        for (int i = 1; i <= 60; i++) {
            Checks.due("sign " + i, i, x.type('t'));
            Checks.due("count(3)", i, x.count(3));
        }
        Checks.due("none is done before run()", 1, x.segment(0, 4));
    }

    private static void signRefused() {
        Checks.sentence("type: IllegalArgumentException if it is not 32 .. 126");
        FoldLaboratory x = new FoldLaboratory();
        x.type('t');
        for (int sign : new int[] {31, 127, 0, -1, 10, 128, 255, 288, 65568, LEAST, MOST}) {
            Checks.refusedAndKept(x, "type(" + sign + ")", IllegalArgumentException.class, () -> x.type(sign));
        }
        Checks.due("the text is still t", 1, x.run());
        for (int sign = 32; sign <= 126; sign++) {
            Checks.due("type(" + sign + ")", 1, new FoldLaboratory().type(sign));
        }
    }

    private static void sixtySigns() {
        Checks.sentence("type: UnsupportedOperationException if there are 60");
        FoldLaboratory x = new FoldLaboratory();
        Checks.typeAll(x, times(59, "t"));
        Checks.due("the 60th", 60, x.type('t'));
        for (int sign = 32; sign <= 126; sign++) {
            int s = sign;
            Checks.unsupported("the 61st, " + sign, () -> x.type(s));
        }
        Checks.refusedAndKept(x, "the 61st", UnsupportedOperationException.class, () -> x.type('q'));
        Checks.due("the text is still 60 times t", 60, x.run());
        Checks.due("then there is room again", 1, x.type('t'));
    }

    private static void wrongSignComesBeforeFull() {
        Checks.sentence("type with 60: a wrong sign is wrong, not too much");
        FoldLaboratory x = new FoldLaboratory();
        Checks.typeAll(x, times(60, " "));
        for (int sign : new int[] {31, 127, LEAST, MOST}) {
            Checks.refusedAndKept(x, "type(" + sign + ")", IllegalArgumentException.class, () -> x.type(sign));
        }
    }

    private static void textIsGone() {
        Checks.sentence("Runs the text, which is gone then");
        for (String text : new String[] {"", "   ", "t", "s9", "q", "tq", "s61", "m0", times(60, "t")}) {
            FoldLaboratory x = twenty();
            Checks.runText(x, text);
            Checks.due("'" + text + "', count(3)", 0, x.count(3));
            Checks.due("'" + text + "', run() again", 0, x.run());
            Checks.due("'" + text + "', type() again", 1, x.type('t'));
            Checks.due("'" + text + "', run() of what is new", 1, x.run());
        }
        FoldLaboratory shorter = twenty();
        Checks.due("a longer text", 1, Checks.runText(shorter, "s0019"));
        Checks.due("a shorter one of the same signs", 1, Checks.runText(shorter, "s001"));
        Checks.due("no sign of the longer one is left", 1, shorter.count(0));
    }

    private static void fullText() {
        Checks.sentence("type and run: a text of 60 signs");
        runs(times(60, "t"), 60);
        runs(times(59, "t") + "s", -60);
        runs(times(58, "t") + "s7", 59);
        runs(times(55, "t") + "s0007", 56);
        runs(times(54, "t") + "s00007", -55);
        runs(times(54, "t") + "s00019", -60);
        runs(times(30, "m1"), 30);
    }

    private static void emptyText() {
        Checks.sentence("OPERATIONS, or none");
        FoldLaboratory x = Checks.folded(20, 4, 0, 6, 1);
        String before = Checks.state(x);
        Checks.due("run() of nothing", 0, x.run());
        Checks.due("nothing has changed", true, before.equals(Checks.state(x)));
        Checks.due("one blank", 0, Checks.runText(x, " "));
        Checks.due("60 blanks", 0, Checks.runText(x, times(60, " ")));
        Checks.due("nothing has changed by blanks", true, before.equals(Checks.state(x)));
    }

    private static void blanks() {
        Checks.sentence("with blanks (32) before, between and behind them, or none");
        runs("ttt", 3);
        runs(" ttt", 3);
        runs("ttt ", 3);
        runs("t t t", 3);
        runs("   t   t   t   ", 3);
        runs("s9m1v2t", 4);
        runs("  s9  m1  v2  t  ", 4);
        runs(times(59, " ") + "t", 1);
        runs("t" + times(59, " "), 1);
        for (char sign : new char[] {'_', '.', ',', '-', '0', '~', '!'}) {
            runs("t" + sign + "t", -2);
        }
    }

    private static void blankBehindTheLetter() {
        Checks.sentence("right behind the letter");
        for (char letter : "sfmvx".toCharArray()) {
            runs(letter + " 5", -1);
            runs("t " + letter + " 5", -3);
        }
        runs("f5 6", -4);
    }

    private static void operations() {
        Checks.sentence("s and a number is strip(), f, m, v, x and a number crease() with the mark 0, 1, 2, 3, "
                + "t turn()");
        FoldLaboratory x = twenty();
        Checks.due("s", 1, Checks.runText(x, "s60"));
        Checks.due("the length", 60, x.count(0));
        for (int mark = 0; mark <= 2; mark++) {
            Checks.due("fmv".substring(mark, mark + 1), 1, Checks.runText(x, "fmv".charAt(mark) + "59"));
            Checks.due("its place", 59, x.segment(0, 1));
            Checks.due("its mark", mark, x.segment(0, 5));
        }
        Checks.due("x", 1, Checks.runText(x, "x59"));
        Checks.due("it went", 0, x.count(1));
        Checks.due("t", 1, Checks.runText(x, "t"));
        Checks.due("turned", 0, x.segment(0, 4));
        Checks.due("t, t, t", 3, Checks.runText(x, "ttt"));
        Checks.due("turned back", 1, x.segment(0, 4));
        Checks.due("s after t", 2, Checks.runText(x, "ts5"));
        Checks.due("not turned", true, x.turn());
    }

    private static void turnHasNoNumber() {
        Checks.sentence("t turn(), which has no number");
        runs("t0", -2);
        runs("t 1", -3);
        runs("t1t", -2);
        runs("tt9", -3);
    }

    private static void numberOfOneToFourDigits() {
        Checks.sentence("A NUMBER is one to four digits 0 .. 9");
        for (String text : new String[] {"s7", "s07", "s007", "s0007"}) {
            FoldLaboratory x = twenty();
            Checks.due("'" + text + "'", 1, Checks.runText(x, text));
            Checks.due("'" + text + "', length", 7, x.count(0));
        }
        FoldLaboratory x = Checks.folded(60);
        Checks.due("digits", 6, Checks.runText(x, "f10m23v45 f0006m7v58"));
        int[] places = {6, 7, 10, 23, 45, 58};
        int[] marks = {0, 1, 0, 1, 2, 2};
        for (int i = 0; i < 6; i++) {
            Checks.due("place " + i, places[i], x.segment(i, 1));
            Checks.due("mark " + i, marks[i], x.segment(i, 5));
        }
        for (int place = 8; place <= 9; place++) {
            Checks.due("digit " + place, 1, Checks.runText(twenty(), "m" + place));
        }
        runs("s9999", -1);
        runs("f9999", -1);
        runs("f1000", -1);
        runs("s0060", 1);
        runs("s0061", -1);
    }

    private static void fifthDigit() {
        Checks.sentence("a fifth one is no part of it");
        // five digits of a number that would do: four are the number, the fifth is no operation
        FoldLaboratory x = twenty();
        Checks.due("s00019", -6, Checks.runText(x, "s00019"));
        Checks.due("it is 1 long", 1, x.count(0));
        FoldLaboratory y = twenty();
        Checks.due("m00019", -6, Checks.runText(y, "m00019"));
        Checks.due("there is a crease at 1", 1, y.segment(0, 1));
        // the four are refused by themselves, before the fifth is looked at
        runs("s00000", -1);
        runs("m00005", -1);
        runs("s99999", -1);
        runs("t s000195", -8);
        runs("f0001f00025", -11);
    }

    private static void noNumber() {
        Checks.sentence("A NUMBER is one digit at least");
        for (char letter : "sfmvx".toCharArray()) {
            runs("" + letter, -1);
            runs(letter + "t", -1);
            runs(letter + "s5", -1);
            runs(letter + "-1", -1);
            runs(letter + "+1", -1);
            runs("t" + letter, -2);
            runs(letter + "/", -1);
            runs(letter + ":", -1);
        }
    }

    private static void notRead() {
        Checks.sentence("at the first one that can't be read it ends");
        for (int sign = 33; sign <= 126; sign++) {
            if ("sfmvxt".indexOf(sign) < 0) {
                runs((char) sign + "5", -1);
                runs("t" + (char) sign, -2);
            }
        }
        for (char letter : "SFMVXT".toCharArray()) {
            runs(letter + "5", -1);
        }
    }

    private static void refusedStrip() {
        Checks.sentence("at the first one that is refused it ends: strip()");
        for (String text : new String[] {"s0", "s61", "s9999", "s0000"}) {
            FoldLaboratory x = Checks.folded(20, 4, 0, 6, 1);
            x.turn();
            String before = Checks.state(x);
            Checks.due("'" + text + "'", -1, Checks.runText(x, text));
            Checks.due("'" + text + "' changed nothing", true, before.equals(Checks.state(x)));
        }
        runs("s1", 1);
        runs("s60", 1);
    }

    private static void refusedCrease() {
        Checks.sentence("at the first one that is refused it ends: crease()");
        String[] wrong = {"f0", "m0", "v0", "x0", "f20", "m20", "v20", "x20", "f21", "x5"};
        String[] tooMany = {"f5", "m5", "v5"};
        for (String text : wrong) {
            FoldLaboratory x = Checks.folded(20, 4, 0, 6, 1);
            String before = Checks.state(x);
            Checks.due("'" + text + "'", -1, Checks.runText(x, text));
            Checks.due("'" + text + "' changed nothing", true, before.equals(Checks.state(x)));
        }
        for (String text : tooMany) {
            FoldLaboratory x = Checks.folded(20, 1, 0, 2, 1, 3, 2, 7, 0, 8, 1, 9, 2);
            String before = Checks.state(x);
            Checks.due("'" + text + "', a seventh", -1, Checks.runText(x, text));
            Checks.due("'" + text + "' changed nothing", true, before.equals(Checks.state(x)));
            Checks.due("one of six gets a mark, and goes", 2, Checks.runText(x, "m9x9"));
        }
        runs("f1", 1);
        runs("f19", 1);
    }

    private static void placeInTheText() {
        Checks.sentence("-1 and as much less as its place in the text, from 0 on");
        for (int place = 0; place < 60; place++) {
            runs(times(place, " ") + "q", -1 - place);
            runs(times(place, "t") + "q", -1 - place);
            runs(times(place, "t") + "s", -1 - place);
        }
        // it is the place of the operation, not of the sign at which it is known
        runs("  s99", -3);
        runs("m5 v99", -4);
        runs("m5v0", -3);
        runs("f1f2f3f4f5f6f7", -13);
    }

    private static void whatWentBeforeStays() {
        Checks.sentence("what went before stays");
        FoldLaboratory x = twenty();
        Checks.due("the run", -13, Checks.runText(x, "s30m4v6tx4f9q"));
        Checks.due("length", 30, x.count(0));
        Checks.due("creases", 2, x.count(1));
        Checks.due("the first place", 6, x.segment(0, 1));
        Checks.due("the first mark", 2, x.segment(0, 5));
        Checks.due("the second place", 9, x.segment(1, 1));
        Checks.due("the second mark", 0, x.segment(1, 5));
        Checks.due("the orders of what stays, turned", 1, x.above(0, 0, 1));
        Checks.due("turned back", false, x.turn());
    }

    private static void whatComesBehindIsNotDone() {
        Checks.sentence("at the first one it ends");
        FoldLaboratory x = Checks.folded(20, 4, 0);
        String before = Checks.state(x);
        Checks.due("not read", -1, Checks.runText(x, "q s5 m2 t"));
        Checks.due("refused", -1, Checks.runText(x, "x5 s5 m2 t"));
        Checks.due("nothing behind is done", true, before.equals(Checks.state(x)));
    }
}

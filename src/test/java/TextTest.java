/** Promises 17 and 18: type, run. */
public final class TextTest {
    public static void main(String[] args) {
        type();
        typeFull();
        operations();
        blanks();
        numbers();
        unreadable();
        refusedOperations();
        longest();
        Checks.end();
    }

    private static void type() {
        FoldLaboratory x = new FoldLaboratory();
        for (int sign : new int[] {31, 127, 0, -1, 10, Integer.MIN_VALUE, Integer.MAX_VALUE}) {
            Checks.wrongArgument("type(" + sign + ")", () -> x.type(sign));
        }
        Checks.due("none is typed", 0, x.count(3));
        Checks.due("type(32)", 1, x.type(32));
        Checks.due("type(126)", 2, x.type(126));
        Checks.due("two are typed", 2, x.count(3));
        Checks.due("typing does nothing else", 1, x.count(0));
    }

    private static void typeFull() {
        FoldLaboratory x = new FoldLaboratory();
        for (int i = 1; i <= 60; i++) {
            Checks.due("sign " + i, i, x.type(' '));
        }
        Checks.unsupported("the 61st", () -> x.type('t'));
        Checks.wrongArgument("the 61st, a wrong one", () -> x.type(31));
        Checks.due("60 are typed", 60, x.count(3));
        Checks.due("60 blanks", 0, x.run());
        Checks.due("there is room again", 1, x.type('t'));
        Checks.due("one", 1, x.run());
    }

    private static void text(String text, int want, int length, int creases) {
        FoldLaboratory x = new FoldLaboratory();
        x.strip(20);
        Checks.due("'" + text + "'", want, Checks.runText(x, text));
        Checks.due("'" + text + "': gone", 0, x.count(3));
        Checks.due("'" + text + "': length", length, x.count(0));
        Checks.due("'" + text + "': creases", creases, x.count(1));
        Checks.due("'" + text + "': nothing twice", 0, x.run());
    }

    private static void operations() {
        text("", 0, 20, 0);
        text("s1", 1, 1, 0);
        text("s60", 1, 60, 0);
        text("t", 1, 20, 0);
        text("f1m2v3x1", 4, 20, 2);
        FoldLaboratory x = new FoldLaboratory();
        Checks.due("all", 9, Checks.runText(x, "s12f3m5v7f9 x9tt t"));
        Checks.due("f", 0, x.segment(0, 5));
        Checks.due("m", 1, x.segment(1, 5));
        Checks.due("v", 2, x.segment(2, 5));
        Checks.due("x", 3, x.count(1));
        Checks.due("t", 0, x.segment(0, 4));
        Checks.due("s turns it back", 1, Checks.runText(x, "s3"));
        Checks.due("front up", 1, x.segment(0, 4));
    }

    private static void blanks() {
        text(" ", 0, 20, 0);
        text("   s9   f3  m4v5   ", 4, 9, 3);
        text("f3 m3 v3", 3, 20, 1);
        text(" t", 1, 20, 0);
        text("t ", 1, 20, 0);
        text("s 9", -1, 20, 0);
        text("t s 9", -3, 20, 0);
        text("f1 2", -4, 20, 1);
    }

    private static void numbers() {
        text("s0009", 1, 9, 0);
        text("f0001", 1, 20, 1);
        text("s00090", -6, 9, 0);
        text("f00015", -6, 20, 1);
        text("f00015f2", -6, 20, 1);
        text("s0", -1, 20, 0);
        text("s9999", -1, 20, 0);
        text("s10000", -1, 20, 0);
        text("t5", -2, 20, 0);
        text("s", -1, 20, 0);
        text("f", -1, 20, 0);
        text("sf1", -1, 20, 0);
        text("f/", -1, 20, 0);
        text("f:", -1, 20, 0);
        text("f1:", -3, 20, 1);
    }

    private static void unreadable() {
        for (int sign = 33; sign <= 126; sign++) {
            boolean letter = "sfmvxt".indexOf(sign) >= 0;
            if (!letter) {
                text((char) sign + "1", -1, 20, 0);
                text("f1 " + (char) sign + "1", -4, 20, 1);
            }
        }
        FoldLaboratory x = new FoldLaboratory();
        Checks.due("turned before the end", -2, Checks.runText(x, "tT"));
        Checks.due("what went before stays", 0, x.segment(0, 4));
        Checks.due("what comes behind is not done", -1, Checks.runText(x, "-t"));
        Checks.due("still turned", 0, x.segment(0, 4));
    }

    private static void refusedOperations() {
        text("s61", -1, 20, 0);
        text("f0", -1, 20, 0);
        text("f20", -1, 20, 0);
        text("f19", 1, 20, 1);
        text("x5", -1, 20, 0);
        text("f5 x5 x5", -7, 20, 0);
        text("s5 m3 f5 t", -7, 5, 1);
        text("f1f2f3f4f5f6f7", -13, 20, 6);
        text("f1f2f3f4f5f6m6x1", 8, 20, 5);
        text("s1m1", -3, 1, 0);
    }

    private static void longest() {
        StringBuilder text = new StringBuilder();
        for (int i = 0; i < 60; i++) {
            text.append('t');
        }
        text(text.toString(), 60, 20, 0);
        text.setCharAt(59, 's');
        text(text.toString(), -60, 20, 0);
        text.setCharAt(58, 's');
        text.setCharAt(59, '7');
        text(text.toString(), 59, 7, 0);
    }
}

import java.util.function.LongSupplier;

/** What the tests of the project share: they tell every answer that is not as due, and end with exit code 1 then. */
final class Checks {
    private static int wrong = 0;
    private static int made = 0;
    private static String sentence = "";

    private Checks() {
    }

    /** The words of the document that the checks from here on are about; they are told with what fails. */
    static void sentence(String words) {
        sentence = "'" + words + "': ";
    }

    static void due(String call, long want, long got) {
        made++;
        if (got != want) {
            fail(call + " answered " + got + ", due is " + want);
        }
    }

    static void due(String call, boolean want, boolean got) {
        due(call, want ? 1 : 0, got ? 1 : 0);
    }

    /** The very class of the exception is due, not one below it. */
    static void refused(String call, Class<? extends RuntimeException> want, LongSupplier made) {
        Checks.made++;
        try {
            fail(call + " answered " + made.getAsLong() + ", due is " + want.getSimpleName());
        } catch (RuntimeException e) {
            if (e.getClass() != want) {
                fail(call + " threw " + e + ", due is " + want.getSimpleName());
            }
        }
    }

    static void wrongArgument(String call, LongSupplier made) {
        refused(call, IllegalArgumentException.class, made);
    }

    static void outOfBounds(String call, LongSupplier made) {
        refused(call, IndexOutOfBoundsException.class, made);
    }

    static void unsupported(String call, LongSupplier made) {
        refused(call, UnsupportedOperationException.class, made);
    }

    /** A refused call throws what is due, and nothing that can be seen has changed. */
    static void refusedAndKept(FoldLaboratory x, String call, Class<? extends RuntimeException> want,
            LongSupplier made) {
        String before = state(x);
        refused(call, want, made);
        String after = state(x);
        if (!after.equals(before)) {
            fail(call + " was refused, and yet changed " + before + " to " + after);
        }
    }

    /** What can be seen of an object, in some sixty calls. */
    static String state(FoldLaboratory x) {
        StringBuilder all = new StringBuilder();
        for (int what = 0; what < 4; what++) {
            all.append(x.count(what)).append(' ');
        }
        for (int i = 0; i <= x.count(1); i++) {
            all.append('|');
            for (int what = 0; what < 6; what++) {
                all.append(' ').append(x.segment(i, what));
            }
        }
        all.append(" | ").append(x.whereIs(x.count(0))).append(' ').append(x.width()).append(' ').append(x.thickness());
        all.append(" | ").append(x.foldable()).append(' ').append(x.steps());
        all.append(" | ").append(x.orders()).append(' ').append(x.marks());
        return all.toString();
    }

    static void fail(String what) {
        wrong++;
        if (wrong <= 20) {
            System.out.println(sentence + what);
        }
    }

    static void end() {
        System.out.println(wrong == 0 ? made + " answers are as due" : wrong + " of " + made + " answers are wrong");
        if (wrong != 0 || made == 0) {
            System.exit(1);
        }
    }

    /** A new object with a strip and creases, given as place, mark, place, mark ... */
    static FoldLaboratory folded(int length, int... creases) {
        FoldLaboratory x = new FoldLaboratory();
        x.strip(length);
        for (int i = 0; i < creases.length; i += 2) {
            x.crease(creases[i], creases[i + 1]);
        }
        return x;
    }

    static void typeAll(FoldLaboratory x, String text) {
        for (int i = 0; i < text.length(); i++) {
            x.type(text.charAt(i));
        }
    }

    static int runText(FoldLaboratory x, String text) {
        typeAll(x, text);
        return x.run();
    }
}

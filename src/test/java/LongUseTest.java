/**
 * All promises on one object: 512 calls each, right and wrong ones without order, and every answer beside that of the
 * model.
 */
public final class LongUseTest {
    private static final int CALLS = 512;
    private static final String[] NAMES = {"strip", "crease", "turn", "count", "segment", "whereIs", "width",
        "thickness", "foldable", "steps", "step", "orders", "above", "layer", "marks", "type", "run"};

    private long seed;
    private FoldLaboratory x;
    private Model model;
    private int made;
    /** Full strips are dear to the model, so only some of the objects get them. */
    private int mostCreases;

    public static void main(String[] args) {
        Checks.sentence("An object is used for at most 512 calls after it has been made");
        for (int i = 0; i < 120; i++) {
            new LongUseTest().use(i);
        }
        Checks.end();
    }

    private int next(int bound) {
        seed = seed * 6364136223846793005L + 1442695040888963407L;
        return (int) ((seed >>> 33) % bound);
    }

    private void use(int number) {
        seed = 977L * number + 5;
        x = new FoldLaboratory();
        model = new Model();
        made = 0;
        mostCreases = number % 20 == 0 ? 6 : 4;
        while (made < CALLS) {
            int kind = next(100);
            if (kind < 3) {
                call("strip", next(4) == 0 ? edge(1, 60) : 8 + next(20));
            } else if (kind < 25) {
                crease();
            } else if (kind < 29) {
                call("turn");
            } else if (kind < 33) {
                text();
            } else {
                ask(NAMES[3 + next(NAMES.length - 3)]);
            }
        }
        Checks.due("calls", CALLS, made);
    }

    /** Mostly one of the numbers from the least to the most, sometimes one beside them or far off. */
    private int edge(int least, int most) {
        switch (next(12)) {
            case 0:
                return least - 1;
            case 1:
                return most + 1;
            case 2:
                return least;
            case 3:
                return most;
            case 4:
                return next(3) == 0 ? Integer.MIN_VALUE : next(2) == 0 ? Integer.MAX_VALUE : next(200) - 100;
            default:
                return least + next(Math.max(1, most - least + 1));
        }
    }

    private void crease() {
        int creases = model.segments() - 1;
        if (creases > 0 && (creases > mostCreases || next(3) == 0)) {
            call("crease", model.placeOfCrease(next(creases)), creases > mostCreases ? 3 : edge(0, 3));
        } else {
            call("crease", edge(1, model.length() - 1), edge(0, 3));
        }
    }

    private void text() {
        int signs = 1 + next(next(8) == 0 ? 70 : 12);
        for (int i = 0; i < signs; i++) {
            String some = next(3) == 0 ? "0123456789 " : "sfmvxt 12";
            call("type", next(40) == 0 ? edge(32, 126) : some.charAt(next(some.length())));
        }
        call("run");
        while (model.segments() - 1 > mostCreases + 1) {
            call("crease", model.placeOfCrease(0), 3);
        }
    }

    private void ask(String name) {
        int segments = model.segments();
        switch (name) {
            case "count":
                call(name, edge(0, 3));
                break;
            case "segment":
                call(name, edge(0, segments - 1), edge(0, 5));
                break;
            case "whereIs":
                call(name, edge(0, model.length()));
                break;
            case "step":
                call(name, edge(0, segments - 2), edge(0, 1));
                break;
            case "above":
                call(name, edge(0, model.orders() - 1), edge(0, segments - 1), edge(0, segments - 1));
                break;
            case "layer":
                call(name, edge(0, model.orders() - 1), edge(-10, 20), edge(0, 3));
                break;
            case "type":
                call(name, edge(32, 126));
                break;
            default:
                call(name);
        }
    }

    private void call(String name, int... p) {
        if (made >= CALLS) {
            return;
        }
        made++;
        String got = answer(name, p);
        String want = model.answer(name, p);
        Checks.due("call " + made + ", " + name + java.util.Arrays.toString(p) + ", " + want + " and " + got, true,
                want.equals(got));
    }

    private String answer(String name, int... p) {
        try {
            return "" + number(name, p);
        } catch (RuntimeException e) {
            return e.getClass().getSimpleName();
        }
    }

    private int number(String name, int... p) {
        switch (name) {
            case "strip":
                x.strip(p[0]);
                return 0;
            case "crease":
                return x.crease(p[0], p[1]);
            case "turn":
                return x.turn() ? 1 : 0;
            case "count":
                return x.count(p[0]);
            case "segment":
                return x.segment(p[0], p[1]);
            case "whereIs":
                return x.whereIs(p[0]);
            case "width":
                return x.width();
            case "thickness":
                return x.thickness();
            case "foldable":
                return x.foldable();
            case "steps":
                return x.steps();
            default:
                return numberOfOthers(name, p);
        }
    }

    private int numberOfOthers(String name, int... p) {
        switch (name) {
            case "step":
                return x.step(p[0], p[1]);
            case "orders":
                return x.orders();
            case "above":
                return x.above(p[0], p[1], p[2]);
            case "layer":
                return x.layer(p[0], p[1], p[2]);
            case "marks":
                return x.marks();
            case "type":
                return x.type(p[0]);
            case "run":
                return x.run();
            default:
                throw new IllegalStateException(name);
        }
    }
}

import java.util.Map;
import java.util.TreeMap;

/**
 * The document's promises once more, as an object that answers every call in words: a number, or the simple name of
 * the exception. What depends on the folded strip alone it asks of an oracle, made anew for each strip.
 */
final class Model {
    private int length = 1;
    private final TreeMap<Integer, Integer> creases = new TreeMap<>();
    private boolean turned = false;
    private String text = "";
    private Oracle oracle = null;

    private static final String ARGUMENT = "IllegalArgumentException";
    private static final String BOUNDS = "IndexOutOfBoundsException";
    private static final String UNSUPPORTED = "UnsupportedOperationException";

    String answer(String name, int... p) {
        switch (name) {
            case "strip":
                return strip(p[0]);
            case "crease":
                return crease(p[0], p[1]);
            case "turn":
                turned = !turned;
                oracle = null;
                return turned ? "1" : "0";
            case "count":
                return p[0] == 0 ? "" + length : p[0] == 1 ? "" + creases.size() : p[0] == 2 ? "" + free()
                        : p[0] == 3 ? "" + text.length() : "-1";
            case "type":
                return type(p[0]);
            case "run":
                return run();
            case "foldable":
                return free() > 0 ? "-1" : folded().folds ? "1" : "0";
            case "steps":
                return free() > 0 ? "-1" : "" + folded().steps.size();
            case "step":
                return step(p[0], p[1]);
            default:
                return answerFolded(name, p);
        }
    }

    private String answerFolded(String name, int... p) {
        switch (name) {
            case "segment":
                return segment(p[0], p[1]);
            case "whereIs":
                return p[0] < 0 || p[0] > length ? ARGUMENT : "" + folded().folded[p[0]];
            case "width":
                return "" + folded().width();
            case "thickness":
                return "" + folded().thickness();
            case "orders":
                return "" + folded().orders.size();
            case "above":
                return above(p[0], p[1], p[2]);
            case "layer":
                return hasOrder(p[0]) ? "" + layer(p[0], p[1], p[2]) : BOUNDS;
            case "marks":
                return "" + folded().markings();
            default:
                throw new IllegalStateException(name);
        }
    }

    private int free() {
        int free = 0;
        for (int mark : creases.values()) {
            free += mark == 0 ? 1 : 0;
        }
        return free;
    }

    int segments() {
        return creases.size() + 1;
    }

    int length() {
        return length;
    }

    /** Some place with a crease, or 0. */
    int placeOfCrease(int i) {
        int at = 0;
        for (Map.Entry<Integer, Integer> crease : creases.entrySet()) {
            if (at == i) {
                return crease.getKey();
            }
            at++;
        }
        return 0;
    }

    int orders() {
        return folded().orders.size();
    }

    private Oracle folded() {
        if (oracle == null) {
            int[] places = creases.keySet().stream().mapToInt(Integer::intValue).toArray();
            int[] marks = creases.values().stream().mapToInt(Integer::intValue).toArray();
            oracle = new Oracle(length, places, marks, turned);
        }
        return oracle;
    }

    private String strip(int newLength) {
        if (newLength < 1 || newLength > 60) {
            return ARGUMENT;
        }
        length = newLength;
        creases.clear();
        turned = false;
        oracle = null;
        return "0";
    }

    private String crease(int place, int mark) {
        if (place < 1 || place > length - 1 || mark < 0 || mark > 3) {
            return ARGUMENT;
        }
        if (mark == 3 && !creases.containsKey(place)) {
            return ARGUMENT;
        }
        if (creases.size() == 6 && !creases.containsKey(place)) {
            return UNSUPPORTED;
        }
        if (mark == 3) {
            creases.remove(place);
        } else {
            creases.put(place, mark);
        }
        oracle = null;
        return "" + creases.size();
    }

    private String segment(int i, int what) {
        if (i < 0 || i >= segments()) {
            return BOUNDS;
        }
        int left = i == 0 ? 0 : placeOfCrease(i - 1);
        int right = i == creases.size() ? length : placeOfCrease(i);
        int[] folded = folded().folded;
        switch (what) {
            case 0:
                return "" + left;
            case 1:
                return "" + right;
            case 2:
                return "" + Math.min(folded[left], folded[right]);
            case 3:
                return "" + Math.max(folded[left], folded[right]);
            case 4:
                return folded().frontUp(i) ? "1" : "0";
            case 5:
                return "" + creases.getOrDefault(right, -1);
            default:
                return ARGUMENT;
        }
    }

    private String step(int i, int what) {
        if (free() > 0 || i < 0 || i >= folded().steps.size()) {
            return BOUNDS;
        }
        return what == 0 || what == 1 ? "" + folded().steps.get(i)[what] : ARGUMENT;
    }

    private boolean hasOrder(int n) {
        return n >= 0 && n < orders();
    }

    private String above(int n, int a, int b) {
        if (!hasOrder(n) || a < 0 || a >= segments() || b < 0 || b >= segments()) {
            return BOUNDS;
        }
        return "" + folded().orders.get(n)[a][b];
    }

    private int layer(int n, int place, int k) {
        return k < 0 || place < -60 || place > 60 ? -1 : folded().layer(n, place, k);
    }

    private String type(int sign) {
        if (sign < 32 || sign > 126) {
            return ARGUMENT;
        }
        if (text.length() == 60) {
            return UNSUPPORTED;
        }
        text += (char) sign;
        return "" + text.length();
    }

    /** Reads by patterns: an operation is a t, or one of the other letters and one to four digits. */
    private String run() {
        String rest = text;
        text = "";
        int whole = rest.length();
        int operations = 0;
        java.util.regex.Pattern operation = java.util.regex.Pattern.compile("t|([sfmvx])([0-9]{1,4})");
        while (true) {
            rest = rest.replaceFirst("^ +", "");
            if (rest.isEmpty()) {
                return "" + operations;
            }
            java.util.regex.Matcher found = operation.matcher(rest);
            if (!found.lookingAt() || !done(found.group(1), found.group(2))) {
                return "" + (-1 - (whole - rest.length()));
            }
            operations++;
            rest = rest.substring(found.end());
        }
    }

    private boolean done(String letter, String number) {
        if (letter == null) {
            answer("turn");
            return true;
        }
        String answer = letter.equals("s") ? strip(Integer.parseInt(number))
                : crease(Integer.parseInt(number), "fmvx".indexOf(letter));
        return !answer.endsWith("Exception");
    }
}

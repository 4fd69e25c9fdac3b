import java.util.Arrays;

/** A laboratory for strips of paper that are folded flat. */
public final class FoldLaboratory {
    public static final int NONE = -1;

    private static final int MOST_LENGTH = 60;
    private static final int MOST_CREASES = 6;
    private static final int MOST_SEGMENTS = MOST_CREASES + 1;
    private static final int MOST_SIGNS = 60;
    private static final int MOST_DIGITS = 4;

    private static final int FREE = 0;
    private static final int MOUNTAIN = 1;
    private static final int VALLEY = 2;
    private static final int GONE = 3;

    private static final int ACCEPTED = 0;
    private static final int WRONG_ARGUMENT = 1;
    private static final int NO_ROOM = 2;

    private final Paper paper;
    private final Reductions reductions;
    private final LayerOrders layerOrders;
    private final int[] signs;
    private int typed;

    public FoldLaboratory() {
        paper = new Paper();
        reductions = new Reductions(paper);
        layerOrders = new LayerOrders(paper);
        signs = new int[MOST_SIGNS];
        typed = 0;
    }

    public void strip(int length) throws IllegalArgumentException {
        if (tryStrip(length) != ACCEPTED) {
            throw new IllegalArgumentException("the length is not 1 .. 60");
        }
    }

    public int crease(int place, int mark) throws IllegalArgumentException, UnsupportedOperationException {
        int verdict = tryCrease(place, mark);
        if (verdict == WRONG_ARGUMENT) {
            throw new IllegalArgumentException("no such place or mark, or no crease that could go");
        }
        if (verdict == NO_ROOM) {
            throw new UnsupportedOperationException("there are six creases");
        }
        return paper.creases;
    }

    public boolean turn() {
        paper.turnOver();
        layerOrders.forget();
        return paper.turned;
    }

    public int count(int what) {
        switch (what) {
            case 0:
                return paper.length;
            case 1:
                return paper.creases;
            case 2:
                return paper.freeCreases();
            case 3:
                return typed;
            default:
                return NONE;
        }
    }

    public int segment(int i, int what) throws IndexOutOfBoundsException, IllegalArgumentException {
        if (!paper.hasSegment(i)) {
            throw new IndexOutOfBoundsException("no such segment");
        }
        switch (what) {
            case 0:
                return paper.leftEnd(i);
            case 1:
                return paper.rightEnd(i);
            case 2:
                return paper.imageLow[i];
            case 3:
                return paper.imageHigh[i];
            case 4:
                return paper.frontUp(i) ? 1 : 0;
            case 5:
                return i < paper.creases ? paper.creaseMarks[i] : NONE;
            default:
                throw new IllegalArgumentException("what is not 0 .. 5");
        }
    }

    public int whereIs(int p) throws IllegalArgumentException {
        if (p < 0 || p > paper.length) {
            throw new IllegalArgumentException("the point is not on the strip");
        }
        return paper.foldedPlace(p);
    }

    public int width() {
        return paper.reach();
    }

    public int thickness() {
        return paper.mostImages();
    }

    public int foldable() {
        if (paper.freeCreases() > 0) {
            return NONE;
        }
        reductions.reduce();
        return reductions.remaining == 1 ? 1 : 0;
    }

    public int steps() {
        if (paper.freeCreases() > 0) {
            return NONE;
        }
        reductions.reduce();
        return reductions.done;
    }

    public int step(int i, int what) throws IndexOutOfBoundsException, IllegalArgumentException {
        // steps() is NONE with a free crease, so that no i is left then
        if (i < 0 || i >= steps()) {
            throw new IndexOutOfBoundsException("no such reduction");
        }
        if (what != 0 && what != 1) {
            throw new IllegalArgumentException("what is not 0 or 1");
        }
        return what == 0 ? reductions.kinds[i] : reductions.wentAt[i];
    }

    public int orders() {
        layerOrders.findAll();
        return layerOrders.found;
    }

    public int above(int n, int a, int b) throws IndexOutOfBoundsException {
        layerOrders.findAll();
        if (n < 0 || n >= layerOrders.found || !paper.hasSegment(a) || !paper.hasSegment(b)) {
            throw new IndexOutOfBoundsException("no such order or segment");
        }
        if (a == b || !paper.overlap(a, b)) {
            return NONE;
        }
        return LayerOrders.isAbove(layerOrders.rows[n], a, b) ? 1 : 0;
    }

    public int layer(int n, int place, int k) throws IndexOutOfBoundsException {
        layerOrders.findAll();
        if (n < 0 || n >= layerOrders.found) {
            throw new IndexOutOfBoundsException("no such order");
        }
        return layerOrders.segmentAt(layerOrders.rows[n], place, k);
    }

    public int marks() {
        layerOrders.findAll();
        return Long.bitCount(layerOrders.markings);
    }

    public int type(int sign) throws IllegalArgumentException, UnsupportedOperationException {
        if (sign < 32 || sign > 126) {
            throw new IllegalArgumentException("the sign is not 32 .. 126");
        }
        if (typed >= MOST_SIGNS) {
            throw new UnsupportedOperationException("there are 60 signs");
        }
        signs[typed] = sign;
        typed++;
        return typed;
    }

    public int run() {
        int end = typed;
        typed = 0;
        int operations = 0;
        int at = 0;
        while (at < end) {
            if (signs[at] == ' ') {
                at++;
                continue;
            }
            int digits = takesNumber(signs[at]) ? digitsFrom(at + 1, end) : 0;
            if (operate(signs[at], at + 1, digits) != ACCEPTED) {
                return -1 - at;
            }
            operations++;
            at += 1 + digits;
        }
        return operations;
    }

    private static boolean takesNumber(int letter) {
        return letter == 's' || markOf(letter) != NONE;
    }

    private static int markOf(int letter) {
        switch (letter) {
            case 'f':
                return FREE;
            case 'm':
                return MOUNTAIN;
            case 'v':
                return VALLEY;
            case 'x':
                return GONE;
            default:
                return NONE;
        }
    }

    private int digitsFrom(int start, int end) {
        int digits = 0;
        while (digits < MOST_DIGITS && start + digits < end && isDigit(signs[start + digits])) {
            digits++;
        }
        return digits;
    }

    private static boolean isDigit(int sign) {
        return sign >= '0' && sign <= '9';
    }

    private int numberAt(int start, int digits) {
        int number = 0;
        for (int i = start; i < start + digits; i++) {
            number = number * 10 + (signs[i] - '0');
        }
        return number;
    }

    private int operate(int letter, int numberStart, int digits) {
        if (letter == 't') {
            turn();
            return ACCEPTED;
        }
        if (digits == 0) {
            return WRONG_ARGUMENT;
        }
        int number = numberAt(numberStart, digits);
        return letter == 's' ? tryStrip(number) : tryCrease(number, markOf(letter));
    }

    private int tryStrip(int length) {
        if (length < 1 || length > MOST_LENGTH) {
            return WRONG_ARGUMENT;
        }
        paper.renew(length);
        layerOrders.forget();
        return ACCEPTED;
    }

    private int tryCrease(int place, int mark) {
        int verdict = paper.judgeCrease(place, mark);
        if (verdict == ACCEPTED) {
            paper.setCrease(place, mark);
            layerOrders.forget();
        }
        return verdict;
    }

    /** The strip with its creases, and where its parts come to lie. */
    private static final class Paper {
        int length;
        int creases;
        boolean turned;
        final int[] creasePlaces;
        final int[] creaseMarks;
        /** The folded places of the strip's left end, of each crease, and of its right end. */
        final int[] bends;
        final int[] imageLow;
        final int[] imageHigh;

        Paper() {
            creasePlaces = new int[MOST_CREASES];
            creaseMarks = new int[MOST_CREASES];
            bends = new int[MOST_SEGMENTS + 1];
            imageLow = new int[MOST_SEGMENTS];
            imageHigh = new int[MOST_SEGMENTS];
            renew(1);
        }

        void renew(int newLength) {
            length = newLength;
            creases = 0;
            turned = false;
            fold();
        }

        void turnOver() {
            turned = !turned;
        }

        int judgeCrease(int place, int mark) {
            if (place < 1 || place >= length || mark < FREE || mark > GONE) {
                return WRONG_ARGUMENT;
            }
            if (hasCreaseAt(place)) {
                return ACCEPTED;
            }
            if (mark == GONE) {
                return WRONG_ARGUMENT;
            }
            return creases < MOST_CREASES ? ACCEPTED : NO_ROOM;
        }

        /** Only for what judgeCrease accepts. */
        void setCrease(int place, int mark) {
            int i = creasesBefore(place);
            if (mark == GONE) {
                removeCrease(i);
            } else if (hasCreaseAt(place)) {
                creaseMarks[i] = mark;
            } else {
                insertCrease(i, place, mark);
            }
            fold();
        }

        private boolean hasCreaseAt(int place) {
            int i = creasesBefore(place);
            return i < creases && creasePlaces[i] == place;
        }

        private int creasesBefore(int place) {
            int i = 0;
            while (i < creases && creasePlaces[i] < place) {
                i++;
            }
            return i;
        }

        private void insertCrease(int i, int place, int mark) {
            for (int j = creases; j > i; j--) {
                creasePlaces[j] = creasePlaces[j - 1];
                creaseMarks[j] = creaseMarks[j - 1];
            }
            creasePlaces[i] = place;
            creaseMarks[i] = mark;
            creases++;
        }

        private void removeCrease(int i) {
            creases--;
            for (int j = i; j < creases; j++) {
                creasePlaces[j] = creasePlaces[j + 1];
                creaseMarks[j] = creaseMarks[j + 1];
            }
        }

        private void fold() {
            bends[0] = 0;
            for (int i = 0; i <= creases; i++) {
                bends[i + 1] = bends[i] + direction(i) * segmentLength(i);
                imageLow[i] = Math.min(bends[i], bends[i + 1]);
                imageHigh[i] = Math.max(bends[i], bends[i + 1]);
            }
        }

        private static int direction(int i) {
            return i % 2 == 0 ? 1 : -1;
        }

        int freeCreases() {
            int free = 0;
            for (int i = 0; i < creases; i++) {
                if (creaseMarks[i] == FREE) {
                    free++;
                }
            }
            return free;
        }

        int segments() {
            return creases + 1;
        }

        boolean hasSegment(int i) {
            return i >= 0 && i <= creases;
        }

        int leftEnd(int i) {
            return i == 0 ? 0 : creasePlaces[i - 1];
        }

        int rightEnd(int i) {
            return i < creases ? creasePlaces[i] : length;
        }

        int segmentLength(int i) {
            return rightEnd(i) - leftEnd(i);
        }

        boolean frontUp(int i) {
            return (i % 2 == 0) != turned;
        }

        int foldedPlace(int p) {
            int i = creasesBefore(p);
            return bends[i] + direction(i) * (p - leftEnd(i));
        }

        int reach() {
            int least = bends[0];
            int greatest = bends[0];
            for (int i = 1; i <= segments(); i++) {
                least = Math.min(least, bends[i]);
                greatest = Math.max(greatest, bends[i]);
            }
            return greatest - least;
        }

        /** The images over a stretch change only where one begins or ends, so the most lie where one begins. */
        int mostImages() {
            int most = 0;
            for (int i = 0; i <= creases; i++) {
                most = Math.max(most, imagesOver(imageLow[i]));
            }
            return most;
        }

        private int imagesOver(int place) {
            int images = 0;
            for (int i = 0; i <= creases; i++) {
                if (liesOver(i, place)) {
                    images++;
                }
            }
            return images;
        }

        /** Whether the image of a segment has the stretch from the place to the next one. */
        boolean liesOver(int i, int place) {
            return imageLow[i] <= place && place < imageHigh[i];
        }

        boolean overlap(int a, int b) {
            return imageLow[a] < imageHigh[b] && imageLow[b] < imageHigh[a];
        }

        int foldedCrease(int i) {
            return bends[i + 1];
        }

        boolean hasInside(int i, int place) {
            return imageLow[i] < place && place < imageHigh[i];
        }
    }

    /** The reductions that are done to the lengths of the segments. */
    private static final class Reductions {
        private final Paper paper;
        private final int[] lengths;
        private final int[] places;
        private final int[] creaseMarks;
        int remaining;
        int done;
        final int[] kinds;
        final int[] wentAt;

        Reductions(Paper paper) {
            this.paper = paper;
            lengths = new int[MOST_SEGMENTS];
            places = new int[MOST_CREASES];
            creaseMarks = new int[MOST_CREASES];
            kinds = new int[MOST_CREASES];
            wentAt = new int[MOST_CREASES];
        }

        void reduce() {
            copyPattern();
            boolean going = true;
            // every reduction takes a crease, so there are no more of them than creases
            for (int i = 0; i < MOST_CREASES && going; i++) {
                going = remaining > 1 && reduceOnce();
            }
        }

        private void copyPattern() {
            done = 0;
            remaining = paper.segments();
            for (int i = 0; i < remaining; i++) {
                lengths[i] = paper.segmentLength(i);
            }
            for (int i = 0; i < paper.creases; i++) {
                places[i] = paper.creasePlaces[i];
                creaseMarks[i] = paper.creaseMarks[i];
            }
        }

        private boolean reduceOnce() {
            if (lengths[0] <= lengths[1]) {
                note(1, 0);
                removeLengths(0, 1);
                removeCreases(0, 1);
                return true;
            }
            if (lengths[remaining - 1] <= lengths[remaining - 2]) {
                note(2, remaining - 2);
                remaining--;
                return true;
            }
            int middle = leftmostPleat();
            if (middle == NONE) {
                return false;
            }
            note(3, middle - 1);
            flatten(middle);
            return true;
        }

        private void note(int kind, int crease) {
            kinds[done] = kind;
            wentAt[done] = places[crease];
            done++;
        }

        private int leftmostPleat() {
            for (int i = 1; i < remaining - 1; i++) {
                if (lengths[i] <= lengths[i - 1] && lengths[i] <= lengths[i + 1]
                        && creaseMarks[i - 1] != creaseMarks[i]) {
                    return i;
                }
            }
            return NONE;
        }

        private void flatten(int middle) {
            lengths[middle - 1] = lengths[middle - 1] - lengths[middle] + lengths[middle + 1];
            removeCreases(middle - 1, 2);
            removeLengths(middle, 2);
        }

        private void removeLengths(int from, int many) {
            remaining -= many;
            for (int i = from; i < remaining; i++) {
                lengths[i] = lengths[i + many];
            }
        }

        private void removeCreases(int from, int many) {
            for (int i = from; i + many < MOST_CREASES; i++) {
                places[i] = places[i + many];
                creaseMarks[i] = creaseMarks[i + many];
            }
        }
    }

    /**
     * All layer orders of the folded strip, by their numbers. An order is a row of bits, one for each pair (a, b) of
     * segments, a less than b: 1 if they overlap and a is above b.
     */
    private static final class LayerOrders {
        private final Paper paper;
        private boolean known;
        int found;
        int[] rows;
        /** Which of the 64 ways to mark six creases some order has: at a crease, the order alone tells its mark. */
        long markings;

        LayerOrders(Paper paper) {
            this.paper = paper;
            rows = new int[64];
        }

        void forget() {
            known = false;
        }

        void findAll() {
            if (!known) {
                found = 0;
                markings = 0;
                decide(0, 1, 0);
                known = true;
            }
        }

        /**
         * Pairs are decided by b, then by a, and below comes before above: so orders are found by their numbers. Each
         * rule is looked at as soon as the last of the pairs that it speaks of is decided. There are 21 pairs at most,
         * and so many levels.
         */
        private void decide(int a, int b, int order) {
            if (b > paper.creases) {
                keep(order);
                return;
            }
            boolean last = a + 1 >= b;
            int nextA = last ? 0 : a + 1;
            int nextB = last ? b + 1 : b;
            if (!paper.overlap(a, b)) {
                decide(nextA, nextB, order);
                return;
            }
            for (int choice = 0; choice <= 1; choice++) {
                int tried = choice == 0 ? order : order | bit(a, b);
                if (keepsMark(tried, a, b) && makesNoRound(tried, a, b)
                        && crossesNoCrease(tried, a, b) && creasesNest(tried, a, b)) {
                    decide(nextA, nextB, tried);
                }
            }
        }

        private void keep(int order) {
            // seven segments can lie in 7! = 5040 ways at most, so this ends early
            if (found >= rows.length) {
                rows = Arrays.copyOf(rows, 2 * rows.length);
            }
            rows[found] = order;
            found++;
            markings |= 1L << markingOf(order);
        }

        private int markingOf(int order) {
            int marking = 0;
            for (int i = 0; i < paper.creases; i++) {
                if (isAbove(order, i, i + 1)) {
                    marking |= 1 << i;
                }
            }
            return marking;
        }

        private static int bit(int a, int b) {
            return 1 << (b * (b - 1) / 2 + a);
        }

        static boolean isAbove(int order, int a, int b) {
            return a < b ? (order & bit(a, b)) != 0 : (order & bit(b, a)) == 0;
        }

        private static boolean isBetween(int order, int s, int a, int b) {
            return isAbove(order, s, a) != isAbove(order, s, b);
        }

        private boolean keepsMark(int order, int a, int b) {
            if (b != a + 1 || paper.creaseMarks[a] == FREE) {
                return true;
            }
            boolean rightAbove = (paper.creaseMarks[a] == VALLEY) == paper.frontUp(a);
            return isAbove(order, b, a) == rightAbove;
        }

        private boolean makesNoRound(int order, int a, int b) {
            for (int c = 0; c < a; c++) {
                if (paper.overlap(c, a) && paper.overlap(c, b)
                        && isAbove(order, a, b) == isAbove(order, b, c)
                        && isAbove(order, b, c) == isAbove(order, c, a)) {
                    return false;
                }
            }
            return true;
        }

        /** A crease's own segments have its place at an end, never inside. */
        private boolean crossesNoCrease(int order, int a, int b) {
            if (a > 0 && paper.hasInside(b, paper.foldedCrease(a - 1)) && isBetween(order, b, a - 1, a)) {
                return false;
            }
            return !paper.hasInside(a, paper.foldedCrease(b - 1)) || !isBetween(order, a, b - 1, b);
        }

        /**
         * Of the creases at the left ends of a and of b: if they lie at one place, and a and b overlap, then all four
         * segments lie on one side of it. Creases next to each other have a segment between them, so never lie so.
         */
        private boolean creasesNest(int order, int a, int b) {
            if (a == 0 || paper.foldedCrease(a - 1) != paper.foldedCrease(b - 1)) {
                return true;
            }
            return isBetween(order, b - 1, a - 1, a) == isBetween(order, b, a - 1, a);
        }

        /** All that lie over one stretch overlap, so each has as many below it as its number from the lowest on. */
        int segmentAt(int order, int place, int k) {
            for (int s = 0; s <= paper.creases; s++) {
                if (paper.liesOver(s, place) && below(order, s, place) == k) {
                    return s;
                }
            }
            return NONE;
        }

        private int below(int order, int s, int place) {
            int many = 0;
            for (int other = 0; other <= paper.creases; other++) {
                if (other != s && paper.liesOver(other, place) && isAbove(order, s, other)) {
                    many++;
                }
            }
            return many;
        }
    }
}

import java.util.NoSuchElementException;

/** Eight places for spans of numbers of a small format; what is reckoned is rounded outwards. */
public final class BoundDesk {
    public static final int NONE = -1;

    private static final int PLACES = 8;

    // Ends are counted in units, a unit being the least number of the format above 0: so each
    // finite end is whole, and the largest products and quotients stay far below ENDLESS.
    private static final long ENDLESS = 1L << 60;

    // What a root is taken of, x in units times units, stays below 2^40: its root has 20 bits at most.
    private static final int ROOT_BITS = 20;

    private static final int PLUS = 0;
    private static final int MINUS = 1;
    private static final int TIMES = 2;
    private static final int OVER = 3;
    private static final int EITHER = 4;
    private static final int BOTH = 5;
    private static final int LESSER = 6;
    private static final int GREATER = 7;
    private static final int NEGATIVE = 8;
    private static final int SQUARE = 9;
    private static final int ROOT = 10;
    private static final int SIZE = 11;

    private final Shape shape;
    private final Span[] places;

    // What a call reckons stands here until it is kept, as a call may ask the place it writes to.
    private final Span made;
    private final Span second;

    public BoundDesk() {
        shape = new Shape(4, 10);
        places = new Span[PLACES];
        for (int i = 0; i < PLACES; i++) {
            places[i] = new Span();
        }
        made = new Span();
        second = new Span();
    }

    public boolean format(int e, int m) {
        if (e < 2 || e > 4 || m < 1 || m > 10) {
            return false;
        }
        shape.exponentBits = e;
        shape.fractionBits = m;
        for (int i = 0; i < PLACES; i++) {
            places[i].becomeEmpty();
        }
        return true;
    }

    public boolean set(int place, int low, int high) {
        if (!isPlace(place) || !shape.isPattern(low) || !shape.isPattern(high)) {
            return false;
        }
        long least = shape.numberOf(low);
        long most = shape.numberOf(high);
        if (least == ENDLESS || most == -ENDLESS || least > most) {
            return false;
        }
        places[place].become(least, most);
        return true;
    }

    public boolean clear(int place) {
        if (!isPlace(place)) {
            return false;
        }
        places[place].becomeEmpty();
        return true;
    }

    public int does(int operation, int to, int a, int b) throws IllegalArgumentException {
        if (operation < PLUS || operation > SIZE) {
            throw new IllegalArgumentException("there is no such OPERATION");
        }
        boolean alone = operation >= NEGATIVE;
        if (!isPlace(to) || !isPlace(a) || (!alone && !isPlace(b))) {
            throw new IllegalArgumentException("there is no such PLACE");
        }
        if (alone) {
            reckonOne(operation, places[a]);
        } else {
            reckonTwo(operation, places[a], places[b]);
        }
        return keep(made, places[to]);
    }

    public int part(int to, int a, int b) throws IllegalArgumentException {
        if (!isPlace(to) || !isPlace(to + 1) || !isPlace(a) || !isPlace(b)) {
            throw new IllegalArgumentException("there is no such PLACE");
        }
        divide(places[a], places[b]);
        int above = keep(made, places[to]);
        int below = keep(second, places[to + 1]);
        return above + 8 * below;
    }

    public int sum(int to, int from, int many) throws IllegalArgumentException {
        if (!isPlace(to) || !isPlace(from)) {
            throw new IllegalArgumentException("there is no such PLACE");
        }
        if (many < 1 || many > PLACES - from) {
            throw new IllegalArgumentException("there are not so many PLACES");
        }
        made.become(0, 0);
        for (int i = from; i < from + many; i++) {
            add(made, places[i]);
        }
        return keep(made, places[to]);
    }

    public int kind(int place) {
        return isPlace(place) ? places[place].kindNumber() : NONE;
    }

    public int low(int place) throws NoSuchElementException {
        if (!isFilled(place)) {
            throw new NoSuchElementException("EMPTY, or no such PLACE");
        }
        return shape.patternOf(places[place].least);
    }

    public int high(int place) throws NoSuchElementException {
        if (!isFilled(place)) {
            throw new NoSuchElementException("EMPTY, or no such PLACE");
        }
        return shape.patternOf(places[place].most);
    }

    public int middle(int place) throws NoSuchElementException {
        if (!isFilled(place) || places[place].lacksAnEnd()) {
            throw new NoSuchElementException("EMPTY, an end is missing, or no such PLACE");
        }
        return shape.patternOfHalf(places[place].least + places[place].most);
    }

    public int width(int place) throws NoSuchElementException {
        if (!isFilled(place)) {
            throw new NoSuchElementException("EMPTY, or no such PLACE");
        }
        long wide = plus(places[place].most, -places[place].least);
        return shape.patternOf(shape.notBelow(wide));
    }

    public int compare(int a, int b) {
        if (!isPlace(a) || !isPlace(b)) {
            return NONE;
        }
        if (!isFilled(a) || !isFilled(b)) {
            return 0;
        }
        Span x = places[a];
        Span y = places[b];
        boolean inside = y.holdsAllOf(x);
        boolean around = x.holdsAllOf(y);
        return (x.least < y.most ? 1 : 0)
            | (x.least <= y.most && y.least <= x.most ? 2 : 0)
            | (x.most > y.least ? 4 : 0)
            | (inside ? 8 : 0)
            | (around ? 16 : 0)
            | (inside && around ? 32 : 0);
    }

    public boolean has(int place, int pattern) {
        if (!isFilled(place) || !shape.isPattern(pattern)) {
            return false;
        }
        long number = shape.numberOf(pattern);
        return !isEndless(number) && places[place].least <= number && number <= places[place].most;
    }

    private static boolean isPlace(int place) {
        return place >= 0 && place < PLACES;
    }

    private boolean isFilled(int place) {
        return isPlace(place) && !places[place].isEmpty();
    }

    private int keep(Span exact, Span kept) {
        if (exact.isEmpty()) {
            kept.becomeEmpty();
        } else {
            kept.become(shape.notAbove(exact.least), shape.notBelow(exact.most));
        }
        return kept.kindNumber();
    }

    private void reckonTwo(int operation, Span a, Span b) {
        if (operation == EITHER) {
            join(a, b);
            return;
        }
        if (a.isEmpty() || b.isEmpty()) {
            made.becomeEmpty();
            return;
        }
        switch (operation) {
            case PLUS:
                made.become(plus(a.least, b.least), plus(a.most, b.most));
                break;
            case MINUS:
                made.become(plus(a.least, -b.most), plus(a.most, -b.least));
                break;
            case TIMES:
                multiply(a, b);
                break;
            case OVER:
                divide(a, b);
                join(made, second);
                break;
            case BOTH:
                meet(a, b);
                break;
            case LESSER:
                made.become(Math.min(a.least, b.least), Math.min(a.most, b.most));
                break;
            case GREATER:
                made.become(Math.max(a.least, b.least), Math.max(a.most, b.most));
                break;
            default:
                made.becomeEmpty();
                break;
        }
    }

    private void reckonOne(int operation, Span a) {
        if (a.isEmpty()) {
            made.becomeEmpty();
            return;
        }
        switch (operation) {
            case NEGATIVE:
                made.become(-a.most, -a.least);
                break;
            case SQUARE:
                takeSize(a);
                made.become(productNotAbove(made.least, made.least), productNotBelow(made.most, made.most));
                break;
            case ROOT:
                takeRoot(a);
                break;
            case SIZE:
                takeSize(a);
                break;
            default:
                made.becomeEmpty();
                break;
        }
    }

    private void join(Span a, Span b) {
        if (a.isEmpty()) {
            made.become(b.least, b.most);
        } else if (b.isEmpty()) {
            made.become(a.least, a.most);
        } else {
            made.become(Math.min(a.least, b.least), Math.max(a.most, b.most));
        }
    }

    private void meet(Span a, Span b) {
        long least = Math.max(a.least, b.least);
        long most = Math.min(a.most, b.most);
        if (least > most) {
            made.becomeEmpty();
        } else {
            made.become(least, most);
        }
    }

    private static void add(Span total, Span more) {
        if (total.isEmpty() || more.isEmpty()) {
            total.becomeEmpty();
        } else {
            total.become(plus(total.least, more.least), plus(total.most, more.most));
        }
    }

    private void multiply(Span a, Span b) {
        long least = Math.min(
            Math.min(productNotAbove(a.least, b.least), productNotAbove(a.least, b.most)),
            Math.min(productNotAbove(a.most, b.least), productNotAbove(a.most, b.most)));
        long most = Math.max(
            Math.max(productNotBelow(a.least, b.least), productNotBelow(a.least, b.most)),
            Math.max(productNotBelow(a.most, b.least), productNotBelow(a.most, b.most)));
        made.become(least, most);
    }

    /** Made becomes the quotients by all that is above 0, second those by all that is below 0. */
    private void divide(Span a, Span b) {
        if (a.isEmpty() || b.isEmpty()) {
            made.becomeEmpty();
            second.becomeEmpty();
            return;
        }
        divideByAbove(a, b.least, b.most, made);
        // x / y is -(x / -y), and -y is above 0 where y is below it.
        divideByAbove(a, -b.most, -b.least, second);
        if (!second.isEmpty()) {
            second.become(-second.most, -second.least);
        }
    }

    private void divideByAbove(Span a, long least, long most, Span into) {
        if (most <= 0) {
            into.becomeEmpty();
            return;
        }
        long near = Math.max(least, 0);
        into.become(leastQuotient(a.least, near, most), -leastQuotient(-a.most, near, most));
    }

    /** No quotient of x, or of more, by a number above 0 from near to far is below this. */
    private long leastQuotient(long x, long near, long far) {
        if (x >= 0) {
            return far <= 0 || far == ENDLESS ? 0 : Math.floorDiv(x << shape.unitBits(), far);
        }
        if (near <= 0 || x == -ENDLESS) {
            return -ENDLESS;
        }
        return Math.floorDiv(x << shape.unitBits(), near);
    }

    private void takeSize(Span a) {
        if (a.least >= 0) {
            made.become(a.least, a.most);
        } else if (a.most <= 0) {
            made.become(-a.most, -a.least);
        } else {
            made.become(0, Math.max(-a.least, a.most));
        }
    }

    private void takeRoot(Span a) {
        if (a.most < 0) {
            made.becomeEmpty();
            return;
        }
        made.become(rootNotAbove(Math.max(a.least, 0)), rootNotBelow(a.most));
    }

    private long rootNotAbove(long x) {
        return wholeRoot(x << shape.unitBits());
    }

    private long rootNotBelow(long x) {
        if (x == ENDLESS) {
            return ENDLESS;
        }
        long square = x << shape.unitBits();
        long root = wholeRoot(square);
        return root * root < square ? root + 1 : root;
    }

    private static long wholeRoot(long square) {
        long root = 0;
        for (int i = ROOT_BITS; i >= 0; i--) {
            long tried = root + (1L << i);
            if (tried * tried <= square) {
                root = tried;
            }
        }
        return root;
    }

    private static boolean isEndless(long end) {
        return end == ENDLESS || end == -ENDLESS;
    }

    private static long plus(long a, long b) {
        if (isEndless(a)) {
            return a;
        }
        return isEndless(b) ? b : a + b;
    }

    private long productNotAbove(long a, long b) {
        // An endless end is not a number itself, so 0 times all that is near it stays 0.
        if (a == 0 || b == 0) {
            return 0;
        }
        if (isEndless(a) || isEndless(b)) {
            return (a < 0) == (b < 0) ? ENDLESS : -ENDLESS;
        }
        return (a * b) >> shape.unitBits();
    }

    private long productNotBelow(long a, long b) {
        return -productNotAbove(-a, b);
    }

    /** A span's ends in units; it is empty if its least is above its most. */
    private static final class Span {
        private long least;
        private long most;

        private Span() {
            least = 1;
            most = 0;
        }

        private void become(long newLeast, long newMost) {
            least = newLeast;
            most = newMost;
        }

        private void becomeEmpty() {
            least = 1;
            most = 0;
        }

        private boolean isEmpty() {
            return least > most;
        }

        private boolean lacksAnEnd() {
            return least == -ENDLESS || most == ENDLESS;
        }

        private boolean holdsAllOf(Span other) {
            return least <= other.least && other.most <= most;
        }

        private int kindNumber() {
            if (isEmpty()) {
                return 0;
            }
            if (least == -ENDLESS) {
                return most == ENDLESS ? 5 : 4;
            }
            if (most == ENDLESS) {
                return 3;
            }
            return least == most ? 1 : 2;
        }
    }

    /** The format: between patterns and numbers of units, and from any such number to the format's. */
    private static final class Shape {
        private int exponentBits;
        private int fractionBits;

        private Shape(int e, int m) {
            exponentBits = e;
            fractionBits = m;
        }

        /** A unit is 2 to the power of minus this. */
        private int unitBits() {
            return (1 << (exponentBits - 1)) - 2 + fractionBits;
        }

        private int signBit() {
            return 1 << (exponentBits + fractionBits);
        }

        private int endlessPattern() {
            return ((1 << exponentBits) - 1) << fractionBits;
        }

        private boolean isPattern(int pattern) {
            return pattern >= 0 && pattern < 2 * signBit() && (pattern & (signBit() - 1)) <= endlessPattern();
        }

        private long numberOf(int pattern) {
            long size = sizeOf(pattern & (signBit() - 1));
            return (pattern & signBit()) != 0 ? -size : size;
        }

        private long sizeOf(int unsigned) {
            if (unsigned == endlessPattern()) {
                return ENDLESS;
            }
            int e = unsigned >> fractionBits;
            long m = unsigned & ((1 << fractionBits) - 1);
            return e == 0 ? m : ((1L << fractionBits) + m) << (e - 1);
        }

        private int patternOf(long number) {
            return number < 0 ? signBit() | unsignedOf(-number) : unsignedOf(number);
        }

        private int unsignedOf(long size) {
            if (size == ENDLESS) {
                return endlessPattern();
            }
            // The highest of the bits left carries into e, which so becomes extra + 1.
            int extra = extraBits(size);
            return (extra << fractionBits) + (int) (size >> extra);
        }

        /** How many low bits of a size the format has no room for. */
        private int extraBits(long size) {
            for (int extra = 0; extra < 62; extra++) {
                if ((size >> extra) < (2L << fractionBits)) {
                    return extra;
                }
            }
            return 62;
        }

        private long notAbove(long number) {
            return number < 0 ? -sizeNotBelow(-number) : sizeNotAbove(number);
        }

        private long notBelow(long number) {
            return -notAbove(-number);
        }

        private long sizeNotAbove(long size) {
            long largest = sizeOf(endlessPattern() - 1);
            if (size > largest) {
                return largest;
            }
            int extra = extraBits(size);
            return (size >> extra) << extra;
        }

        private long sizeNotBelow(long size) {
            if (size > sizeOf(endlessPattern() - 1)) {
                return ENDLESS;
            }
            int extra = extraBits(size);
            return ((size + (1L << extra) - 1) >> extra) << extra;
        }

        /** The pattern nearest to half of a sum of two ends. */
        private int patternOfHalf(long twice) {
            long under = notAbove(twice >> 1);
            long over = notBelow(twice - (twice >> 1));
            long toUnder = twice - 2 * under;
            long toOver = 2 * over - twice;
            int underPattern = patternOf(under);
            // Neighbours differ in the last bit of m.
            boolean takeUnder = toUnder < toOver || (toUnder == toOver && (underPattern & 1) == 0);
            return takeUnder ? underPattern : patternOf(over);
        }
    }
}

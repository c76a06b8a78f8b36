import java.math.BigInteger;
import java.util.ArrayList;
import java.util.Arrays;
import java.util.List;
import java.util.NoSuchElementException;
import java.util.Random;
import java.util.function.IntSupplier;

/**
 * A second reckoning, slow and by other means: exact fractions, a table of all numbers of the
 * format, an end that is missing stood for by a huge number, and a divisor near 0 by a tiny one.
 * Single calls on new objects first, then long runs in which each call meets what others left.
 */
public final class OracleTest {
    private static final int ILLEGAL = -101;
    private static final int MISSING = -102;
    private static final int OTHER = -103;
    private static int wrong = 0;
    private static long asked = 0;

    private static void due(String what, long got, long want) {
        asked++;
        if (got != want) {
            wrong++;
            if (wrong <= 40) {
                System.out.println(what + " answered " + got + ", due is " + want);
            }
        }
    }

    private record Fraction(BigInteger over, BigInteger under) implements Comparable<Fraction> {
        static final Fraction ZERO = power(1).minus(power(1));

        static Fraction power(int exponent) {
            BigInteger two = BigInteger.ONE.shiftLeft(Math.abs(exponent));
            return exponent < 0 ? new Fraction(BigInteger.ONE, two) : new Fraction(two, BigInteger.ONE);
        }

        static Fraction whole(long n) {
            return new Fraction(BigInteger.valueOf(n), BigInteger.ONE);
        }

        Fraction plus(Fraction o) {
            return new Fraction(over.multiply(o.under).add(o.over.multiply(under)), under.multiply(o.under));
        }

        Fraction negative() {
            return new Fraction(over.negate(), under);
        }

        Fraction minus(Fraction o) {
            return plus(o.negative());
        }

        Fraction times(Fraction o) {
            return new Fraction(over.multiply(o.over), under.multiply(o.under));
        }

        Fraction by(Fraction o) {
            BigInteger top = over.multiply(o.under);
            BigInteger bottom = under.multiply(o.over);
            return bottom.signum() < 0 ? new Fraction(top.negate(), bottom.negate()) : new Fraction(top, bottom);
        }

        int sign() {
            return over.signum();
        }

        @Override
        public int compareTo(Fraction o) {
            return over.multiply(o.under).compareTo(o.over.multiply(under));
        }
    }

    private static final Fraction HUGE = Fraction.power(50);
    private static final Fraction BEYOND = Fraction.power(20);
    private static final Fraction TINY = Fraction.power(-50);

    /** All numbers of a format in their order, with their patterns. */
    private static final class Table {
        final int e;
        final int m;
        final int signBit;
        final int infinite;
        final List<Fraction> numbers = new ArrayList<>();
        final List<Integer> patterns = new ArrayList<>();

        Table(int e, int m) {
            this.e = e;
            this.m = m;
            signBit = 1 << (e + m);
            infinite = ((1 << e) - 1) << m;
            for (int p = infinite - 1; p > 0; p--) {
                numbers.add(number(p).negative());
                patterns.add(signBit + p);
            }
            for (int p = 0; p < infinite; p++) {
                numbers.add(number(p));
                patterns.add(p);
            }
        }

        Fraction number(int pattern) {
            int bias = (1 << (e - 1)) - 1;
            int exponent = pattern / (1 << m);
            int rest = pattern % (1 << m);
            return exponent == 0
                ? Fraction.whole(rest).times(Fraction.power(1 - bias - m))
                : Fraction.whole((1 << m) + rest).times(Fraction.power(exponent - bias - m));
        }

        /** How many numbers of the format are below x, or not above it. */
        int count(Fraction x, boolean equalToo) {
            int from = 0;
            int to = numbers.size();
            while (from < to) {
                int half = (from + to) / 2;
                int order = numbers.get(half).compareTo(x);
                if (order < 0 || (order == 0 && equalToo)) {
                    from = half + 1;
                } else {
                    to = half;
                }
            }
            return from;
        }

        int lowPattern(Fraction x) {
            int at = count(x, true) - 1;
            return at < 0 ? signBit + infinite : patterns.get(at);
        }

        int highPattern(Fraction x) {
            int at = count(x, false);
            return at == numbers.size() ? infinite : patterns.get(at);
        }

        int nearestPattern(Fraction x) {
            int under = count(x, true) - 1;
            int over = Math.min(under + 1, numbers.size() - 1);
            int order = x.minus(numbers.get(under)).compareTo(numbers.get(over).minus(x));
            if (order == 0) {
                return patterns.get(under) % 2 == 0 ? patterns.get(under) : patterns.get(over);
            }
            return order < 0 ? patterns.get(under) : patterns.get(over);
        }

        Fraction square(int at) {
            return numbers.get(at).times(numbers.get(at));
        }

        Fraction end(int pattern) {
            int size = pattern % signBit;
            Fraction x = size == infinite ? HUGE : number(size);
            return pattern >= signBit ? x.negative() : x;
        }
    }

    /** Patterns of the ends; null stands for EMPTY. */
    private record Ends(int low, int high) {
        int kind(Table t) {
            boolean noLow = low == t.signBit + t.infinite;
            boolean noHigh = high == t.infinite;
            return noLow && noHigh ? 5 : noLow ? 4 : noHigh ? 3 : low == high ? 1 : 2;
        }
    }

    private static int kindOf(Ends s, Table t) {
        return s == null ? 0 : s.kind(t);
    }

    private static Ends around(List<Fraction> all, Table t) {
        if (all.isEmpty()) {
            return null;
        }
        Fraction least = all.get(0);
        Fraction most = all.get(0);
        for (Fraction x : all) {
            least = x.compareTo(least) < 0 ? x : least;
            most = x.compareTo(most) > 0 ? x : most;
        }
        return new Ends(t.lowPattern(least), t.highPattern(most));
    }

    /** The corners of a span, and what lies about 0 if 0 is in it. */
    private static List<Fraction> points(Ends s, Table t) {
        List<Fraction> points = new ArrayList<>();
        if (s == null) {
            return points;
        }
        Fraction low = t.end(s.low);
        Fraction high = t.end(s.high);
        for (Fraction x : new Fraction[] {low, high, Fraction.ZERO, TINY, TINY.negative()}) {
            if (low.compareTo(x) <= 0 && x.compareTo(high) <= 0) {
                points.add(x);
            }
        }
        return points;
    }

    private static Ends quotients(Ends a, Ends b, Table t, boolean above, boolean below) {
        List<Fraction> all = new ArrayList<>();
        for (Fraction x : points(a, t)) {
            for (Fraction y : points(b, t)) {
                if ((above && y.sign() > 0) || (below && y.sign() < 0)) {
                    // TINY over HUGE and HUGE over TINY are no more than tiny and huge.
                    all.add(x.by(y));
                }
            }
        }
        return around(all, t);
    }

    private static Ends roots(Ends a, Table t) {
        if (a == null || t.end(a.high).sign() < 0) {
            return null;
        }
        Fraction low = t.end(a.low).sign() < 0 ? Fraction.ZERO : t.end(a.low);
        Fraction high = t.end(a.high);
        int zero = t.count(Fraction.ZERO, false);
        int under = zero;
        while (under + 1 < t.numbers.size() && t.numbers.get(under + 1).times(t.numbers.get(under + 1)).compareTo(low) <= 0) {
            under++;
        }
        int over = zero;
        while (over < t.numbers.size() && t.numbers.get(over).times(t.numbers.get(over)).compareTo(high) < 0) {
            over++;
        }
        return new Ends(t.patterns.get(under), over == t.numbers.size() ? t.infinite : t.patterns.get(over));
    }

    private static Fraction ofTwo(int operation, Fraction x, Fraction y) {
        switch (operation) {
            case 0: return x.plus(y);
            case 1: return x.minus(y);
            case 2: return x.times(y);
            case 6: return x.compareTo(y) < 0 ? x : y;
            default: return x.compareTo(y) > 0 ? x : y;
        }
    }

    private static Ends overlap(Ends a, Ends b, Table t) {
        List<Fraction> all = new ArrayList<>();
        for (Fraction x : points(a, t)) {
            if (b != null && t.end(b.low).compareTo(x) <= 0 && x.compareTo(t.end(b.high)) <= 0) {
                all.add(x);
            }
        }
        for (Fraction y : points(b, t)) {
            if (a != null && t.end(a.low).compareTo(y) <= 0 && y.compareTo(t.end(a.high)) <= 0) {
                all.add(y);
            }
        }
        // A tiny number here lies in both only if 0 does, or an end not nearer than it.
        return around(all, t);
    }

    private static Ends result(int operation, Ends a, Ends b, Table t) {
        List<Fraction> all = new ArrayList<>();
        switch (operation) {
            case 3:
                return quotients(a, b, t, true, true);
            case 4:
                all.addAll(points(a, t));
                all.addAll(points(b, t));
                return around(all, t);
            case 5:
                return overlap(a, b, t);
            case 8:
                return a == null ? null : around(List.of(t.end(a.low).negative(), t.end(a.high).negative()), t);
            case 9:
                for (Fraction x : points(a, t)) {
                    all.add(x.times(x));
                }
                return around(all, t);
            case 10:
                return roots(a, t);
            case 11:
                for (Fraction x : points(a, t)) {
                    all.add(x.sign() < 0 ? x.negative() : x);
                }
                return around(all, t);
            default:
                for (Fraction x : points(a, t)) {
                    for (Fraction y : points(b, t)) {
                        all.add(ofTwo(operation, x, y));
                    }
                }
                return around(all, t);
        }
    }

    private static int comparison(Ends a, Ends b, Table t) {
        if (a == null || b == null) {
            return 0;
        }
        int bits = 0;
        for (Fraction x : points(a, t)) {
            for (Fraction y : points(b, t)) {
                bits |= x.compareTo(y) < 0 ? 1 : x.compareTo(y) > 0 ? 4 : 0;
            }
        }
        Ends both = overlap(a, b, t);
        boolean inside = a.equals(both);
        boolean around = b.equals(both);
        return bits | (both != null ? 2 : 0) | (inside ? 8 : 0) | (around ? 16 : 0) | (inside && around ? 32 : 0);
    }

    private static String told(Ends s) {
        return s == null ? "EMPTY" : s.low + ".." + s.high;
    }

    private static void put(BoundDesk desk, int place, Ends s) {
        if (s == null) {
            due("clear", desk.clear(place) ? 1 : 0, 1);
        } else {
            due("set " + told(s), desk.set(place, s.low, s.high) ? 1 : 0, 1);
        }
    }

    private static void holds(String what, BoundDesk desk, int place, Ends s, Table t) {
        due(what + ", kind", desk.kind(place), kindOf(s, t));
        int low = -1;
        int high = -1;
        try {
            low = desk.low(place);
            high = desk.high(place);
        } catch (NoSuchElementException e) {
            due(what + ", low or high threw", 1, s == null ? 1 : 0);
        }
        due(what + ", low", low, s == null ? -1 : s.low);
        due(what + ", high", high, s == null ? -1 : s.high);
    }

    private static BoundDesk desk(Table t) {
        BoundDesk desk = new BoundDesk();
        due("format", desk.format(t.e, t.m) ? 1 : 0, 1);
        return desk;
    }

    private static void checkTwo(Ends a, Ends b, Table t) {
        BoundDesk desk = desk(t);
        put(desk, 0, a);
        put(desk, 1, b);
        String of = " of " + told(a) + " and " + told(b) + " in " + t.e + ", " + t.m;
        for (int operation = 0; operation < 8; operation++) {
            Ends s = result(operation, a, b, t);
            String what = "operation " + operation + of;
            due(what, desk.does(operation, 2, 0, 1), kindOf(s, t));
            holds(what, desk, 2, s, t);
        }
        Ends above = quotients(a, b, t, true, false);
        Ends below = quotients(a, b, t, false, true);
        due("part" + of, desk.part(3, 0, 1), kindOf(above, t) + 8 * kindOf(below, t));
        holds("part" + of, desk, 3, above, t);
        holds("part" + of, desk, 4, below, t);
        due("compare" + of, desk.compare(0, 1), comparison(a, b, t));
    }

    private static void checkOne(Ends a, Table t) {
        BoundDesk desk = desk(t);
        put(desk, 0, a);
        String of = " of " + told(a) + " in " + t.e + ", " + t.m;
        for (int operation = 8; operation < 12; operation++) {
            Ends s = result(operation, a, null, t);
            String what = "operation " + operation + of;
            due(what, desk.does(operation, 2, 0, -1), kindOf(s, t));
            holds(what, desk, 2, s, t);
        }
        int middle = -1;
        int width = -1;
        try {
            width = desk.width(0);
            middle = desk.middle(0);
        } catch (NoSuchElementException e) {
            due("middle or width threw" + of, 1, a == null || a.kind(t) > 2 ? 1 : 0);
        }
        due("width" + of, width, a == null ? -1 : widthOf(a, t));
        due("middle" + of, middle, a == null || a.kind(t) > 2 ? -1 : middleOf(a, t));
    }

    private static int widthOf(Ends s, Table t) {
        return t.highPattern(t.end(s.high).minus(t.end(s.low)));
    }

    private static int middleOf(Ends s, Table t) {
        return t.nearestPattern(t.end(s.low).plus(t.end(s.high)).times(Fraction.power(-1)));
    }

    private static boolean isIn(Ends s, int pattern, Table t) {
        boolean finite = pattern >= 0 && pattern < 2 * t.signBit && pattern % t.signBit < t.infinite;
        return finite && s != null
            && t.end(s.low).compareTo(t.end(pattern)) <= 0 && t.end(pattern).compareTo(t.end(s.high)) <= 0;
    }

    private static Ends total(Ends[] spans, int from, int many, Table t) {
        Fraction low = Fraction.ZERO;
        Fraction high = Fraction.ZERO;
        for (int i = from; i < from + many; i++) {
            if (spans[i] == null) {
                return null;
            }
            low = low.plus(t.end(spans[i].low));
            high = high.plus(t.end(spans[i].high));
        }
        return new Ends(t.lowPattern(low), t.highPattern(high));
    }

    private static void checkHas(Ends a, int pattern, Table t) {
        BoundDesk desk = desk(t);
        put(desk, 0, a);
        due("has " + pattern + " of " + told(a), desk.has(0, pattern) ? 1 : 0, isIn(a, pattern, t) ? 1 : 0);
    }

    private static void checkSum(Ends[] spans, int from, int many, int to, Table t) {
        BoundDesk desk = desk(t);
        for (int i = 0; i < 8; i++) {
            put(desk, i, spans[i]);
        }
        StringBuilder what = new StringBuilder("sum of");
        for (int i = from; i < from + many; i++) {
            what.append(' ').append(told(spans[i]));
        }
        Ends s = total(spans, from, many, t);
        due(what.toString(), desk.sum(to, from, many), kindOf(s, t));
        holds(what.toString(), desk, to, s, t);
    }

    private static List<Ends> allSpans(Table t) {
        List<Ends> spans = new ArrayList<>();
        spans.add(null);
        spans.add(new Ends(t.signBit + t.infinite, t.infinite));
        for (int i = 0; i < t.numbers.size(); i++) {
            spans.add(new Ends(t.signBit + t.infinite, t.patterns.get(i)));
            spans.add(new Ends(t.patterns.get(i), t.infinite));
            for (int j = i; j < t.numbers.size(); j++) {
                spans.add(new Ends(t.patterns.get(i), t.patterns.get(j)));
            }
        }
        return spans;
    }

    private static void checkPatterns(Table t) {
        for (int low = -1; low <= 2 * t.signBit; low++) {
            for (int high = -1; high <= 2 * t.signBit; high++) {
                BoundDesk desk = desk(t);
                boolean patterns = low >= 0 && high >= 0 && low < 2 * t.signBit && high < 2 * t.signBit
                    && low % t.signBit <= t.infinite && high % t.signBit <= t.infinite;
                boolean span = patterns && low != t.infinite && high != t.signBit + t.infinite
                    && t.end(low).compareTo(t.end(high)) <= 0;
                due("set(0, " + low + ", " + high + ")", desk.set(0, low, high) ? 1 : 0, span ? 1 : 0);
                due("kind after set(0, " + low + ", " + high + ")", desk.kind(0) == 0 ? 0 : 1, span ? 1 : 0);
            }
        }
    }

    private static int randomAt(Random random, Table t) {
        int size = t.numbers.size();
        int zero = size / 2;
        int one = t.count(Fraction.power(0), false);
        switch (random.nextInt(6)) {
            case 0: return zero + random.nextInt(5) - 2;
            case 1: return random.nextBoolean() ? random.nextInt(3) : size - 1 - random.nextInt(3);
            case 2: return random.nextBoolean() ? one : size - 1 - one;
            default: return random.nextInt(size);
        }
    }

    private static Ends randomSpan(Random random, Table t) {
        int i = randomAt(random, t);
        int j = random.nextInt(5) == 0 ? i : randomAt(random, t);
        int low = t.patterns.get(Math.min(i, j));
        int high = t.patterns.get(Math.max(i, j));
        int shape = random.nextInt(20);
        return shape == 0 ? null : new Ends(shape == 1 || shape == 2 ? t.signBit + t.infinite : low,
            shape == 2 || shape == 3 ? t.infinite : high);
    }

    private static void checkAll(int e, int m) {
        Table t = new Table(e, m);
        List<Ends> spans = allSpans(t);
        checkPatterns(t);
        for (Ends a : spans) {
            checkOne(a, t);
            for (int pattern = -2; pattern < 2 * t.signBit + 2; pattern++) {
                checkHas(a, pattern, t);
            }
            for (Ends b : spans) {
                checkTwo(a, b, t);
            }
        }
    }

    private static void checkMany(Table t, int rounds) {
        Random random = new Random(100 * t.e + t.m);
        for (int i = 0; i < rounds; i++) {
            Ends a = randomSpan(random, t);
            Ends b = randomSpan(random, t);
            checkTwo(a, b, t);
            checkHas(a, random.nextInt(2 * t.signBit + 2) - 1, t);
            if (i % 4 == 0) {
                checkOne(a, t);
            }
            Ends[] eight = new Ends[8];
            for (int place = 0; place < 8; place++) {
                eight[place] = randomSpan(random, t);
            }
            int from = random.nextInt(8);
            checkSum(eight, from, 1 + random.nextInt(8 - from), random.nextInt(8), t);
        }
    }

    /** The one number next to a root or a square on each side, for every number of a format. */
    private static void checkRootsAndSquares(Table t) {
        int zero = t.count(Fraction.ZERO, false);
        int under = zero;
        for (int i = zero; i < t.numbers.size(); i++) {
            Fraction x = t.numbers.get(i);
            // Roots grow with their squares, so the search goes on where the last one ended.
            while (under + 1 < t.numbers.size() && t.square(under + 1).compareTo(x) <= 0) {
                under++;
            }
            int over = t.square(under).compareTo(x) == 0 ? under : under + 1;
            Ends root = new Ends(t.patterns.get(under), over == t.numbers.size() ? t.infinite : t.patterns.get(over));
            Ends square = new Ends(t.lowPattern(t.square(i)), t.highPattern(t.square(i)));
            BoundDesk desk = desk(t);
            put(desk, 0, new Ends(t.patterns.get(i), t.patterns.get(i)));
            String of = " of " + t.patterns.get(i) + " in " + t.e + ", " + t.m;
            due("root" + of, desk.does(10, 1, 0, 0), kindOf(root, t));
            holds("root" + of, desk, 1, root, t);
            due("square" + of, desk.does(9, 1, 0, 0), kindOf(square, t));
            holds("square" + of, desk, 1, square, t);
        }
    }

    /** One object through a run of calls, right ones and wrong ones, and beside it what is due. */
    private static final class Run {
        private static final int[] NO_PLACES = {-1, 8, 9, -8, 256, Integer.MAX_VALUE, Integer.MIN_VALUE};
        private static final int[] NO_OPERATIONS = {-1, 12, Integer.MAX_VALUE, Integer.MIN_VALUE};
        private static final int[] NO_COUNTS = {0, -1, 9, Integer.MAX_VALUE, Integer.MIN_VALUE};

        private final Random random;
        private final Table[][] tables;
        private final String name;
        private final BoundDesk desk = new BoundDesk();
        private final Ends[] kept = new Ends[8];
        private Table t;
        private int calls = 0;

        Run(int seed, Table[][] tables) {
            random = new Random(seed);
            this.tables = tables;
            name = "run " + seed;
            t = tables[4][10];
        }

        private void call(String what, IntSupplier call, int want) {
            calls++;
            int got;
            try {
                got = call.getAsInt();
            } catch (RuntimeException e) {
                got = e.getClass() == IllegalArgumentException.class ? ILLEGAL
                    : e.getClass() == NoSuchElementException.class ? MISSING : OTHER;
            }
            due(name + ", call " + calls + ", format " + t.e + ", " + t.m + ": " + what, got, want);
        }

        private boolean seldom() {
            return random.nextInt(30) == 0;
        }

        private int place() {
            return seldom() ? NO_PLACES[random.nextInt(NO_PLACES.length)] : random.nextInt(8);
        }

        private static boolean is(int place) {
            return place >= 0 && place < 8;
        }

        private void format(int e, int m) {
            boolean right = e >= 2 && e <= 4 && m >= 1 && m <= 10;
            call("format(" + e + ", " + m + ")", () -> desk.format(e, m) ? 1 : 0, right ? 1 : 0);
            if (right) {
                t = tables[e][m];
                Arrays.fill(kept, null);
            }
        }

        private void set() {
            int place = place();
            Ends s = randomSpan(random, t);
            if (s == null) {
                call("clear(" + place + ")", () -> desk.clear(place) ? 1 : 0, is(place) ? 1 : 0);
            } else {
                // The ends the wrong way round are a span only if they are one number.
                boolean turned = seldom();
                int low = turned ? s.high : s.low;
                int high = turned ? s.low : s.high;
                boolean right = is(place) && (!turned || low == high);
                call("set(" + place + ", " + low + ", " + high + ")", () -> desk.set(place, low, high) ? 1 : 0, right ? 1 : 0);
                if (!right) {
                    return;
                }
            }
            if (is(place)) {
                kept[place] = s;
            }
        }

        private void does() {
            int operation = seldom() ? NO_OPERATIONS[random.nextInt(4)] : random.nextInt(12);
            int to = place();
            int a = place();
            int b = place();
            boolean right = operation >= 0 && operation < 12 && is(to) && is(a) && (operation > 7 || is(b));
            Ends s = right ? result(operation, kept[a], is(b) ? kept[b] : null, t) : null;
            call("does(" + operation + ", " + to + ", " + a + ", " + b + ")",
                () -> desk.does(operation, to, a, b), right ? kindOf(s, t) : ILLEGAL);
            if (right) {
                kept[to] = s;
            }
        }

        private void part() {
            int to = place();
            int a = place();
            int b = place();
            boolean right = is(to) && to < 7 && is(a) && is(b);
            Ends above = right ? quotients(kept[a], kept[b], t, true, false) : null;
            Ends below = right ? quotients(kept[a], kept[b], t, false, true) : null;
            call("part(" + to + ", " + a + ", " + b + ")",
                () -> desk.part(to, a, b), right ? kindOf(above, t) + 8 * kindOf(below, t) : ILLEGAL);
            if (right) {
                kept[to] = above;
                kept[to + 1] = below;
            }
        }

        private void sum() {
            int to = place();
            int from = place();
            int many = seldom() ? NO_COUNTS[random.nextInt(NO_COUNTS.length)] : 1 + random.nextInt(4);
            boolean right = is(to) && is(from) && many >= 1 && many <= 8 - from;
            Ends s = right ? total(kept, from, many, t) : null;
            call("sum(" + to + ", " + from + ", " + many + ")",
                () -> desk.sum(to, from, many), right ? kindOf(s, t) : ILLEGAL);
            if (right) {
                kept[to] = s;
            }
        }

        private void ask(int place) {
            Ends s = is(place) ? kept[place] : null;
            call("kind(" + place + ")", () -> desk.kind(place), is(place) ? kindOf(s, t) : -1);
            call("low(" + place + ")", () -> desk.low(place), s == null ? MISSING : s.low);
            call("high(" + place + ")", () -> desk.high(place), s == null ? MISSING : s.high);
            call("width(" + place + ")", () -> desk.width(place), s == null ? MISSING : widthOf(s, t));
            call("middle(" + place + ")", () -> desk.middle(place), s == null || s.kind(t) > 2 ? MISSING : middleOf(s, t));
        }

        private void compare() {
            int a = place();
            int b = place();
            call("compare(" + a + ", " + b + ")",
                () -> desk.compare(a, b), is(a) && is(b) ? comparison(kept[a], kept[b], t) : -1);
        }

        private void has() {
            int place = place();
            int pattern = random.nextInt(2 * t.signBit + 2) - 1;
            call("has(" + place + ", " + pattern + ")",
                () -> desk.has(place, pattern) ? 1 : 0, is(place) && isIn(kept[place], pattern, t) ? 1 : 0);
        }

        private void step() {
            switch (random.nextInt(10)) {
                case 0: case 1: set(); break;
                case 2: case 3: case 4: does(); break;
                case 5: part(); break;
                case 6: sum(); break;
                case 7: compare(); break;
                case 8: has(); break;
                default: ask(place()); break;
            }
            if (random.nextInt(150) == 0) {
                format(1 + random.nextInt(5), random.nextInt(12));
            }
        }

        void go() {
            if (random.nextInt(10) != 0) {
                format(2 + random.nextInt(3), 1 + random.nextInt(10));
            }
            // The last questions are 40 calls: all stay within the 512 that the document has.
            while (calls < 460) {
                step();
            }
            for (int place = 0; place < 8; place++) {
                ask(place);
            }
            due(name + " has at most 512 calls", calls <= 512 ? 1 : 0, 1);
        }
    }

    private static Table[][] allTables() {
        Table[][] tables = new Table[5][11];
        for (int e = 2; e <= 4; e++) {
            for (int m = 1; m <= 10; m++) {
                tables[e][m] = new Table(e, m);
            }
        }
        return tables;
    }

    public static void main(String[] args) {
        due("a huge number is beyond all", BEYOND.compareTo(HUGE.times(Fraction.power(-16))) < 0 ? 1 : 0, 1);
        checkAll(2, 1);
        checkAll(2, 2);
        Table[][] tables = allTables();
        for (int e = 2; e <= 4; e++) {
            for (int m = 1; m <= 10; m++) {
                checkMany(tables[e][m], 1500);
                checkRootsAndSquares(tables[e][m]);
            }
        }
        for (int seed = 1; seed <= 300; seed++) {
            new Run(seed, tables).go();
        }
        System.out.println(asked + " answers, " + wrong + " not as due");
        if (wrong != 0) {
            System.exit(1);
        }
    }
}

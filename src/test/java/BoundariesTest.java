import java.util.NoSuchElementException;
import java.util.function.ToIntFunction;

/**
 * The document, sentence by sentence: each one that names a boundary case has a test here, with the
 * sentence beside it, and what fails is told with its sentence.
 *
 * Ends are written as numbers, and pattern(..) finds their patterns by the document's formula.
 * The format E 2, M 1 has the patterns 0: 0, 1: 0.5, 2: 1, 3: 1.5, 4: 2, 5: 3, 6: INFINITE, and
 * with 8 added the same below 0. No desk is asked more than 512 times.
 */
public final class BoundariesTest {
    private static final int ILLEGAL = -101;
    private static final int MISSING = -102;
    private static final int OTHER = -103;
    private static final double INF = Double.POSITIVE_INFINITY;
    private static final double[] EMPTY = {};
    private static final int[] NO_PLACES = {-1, 8, -8, 9, 256, Integer.MAX_VALUE, Integer.MIN_VALUE};

    private static final int PLUS = 0, MINUS = 1, TIMES = 2, OVER = 3, EITHER = 4, BOTH = 5;
    private static final int LESSER = 6, GREATER = 7, NEGATIVE = 8, SQUARE = 9, ROOT = 10, SIZE = 11;

    private static int wrong = 0;
    private static String sentence = "";
    private static int formatE = 2;
    private static int formatM = 1;

    // ---- how answers are looked at

    private static void sentence(String where, String words) {
        sentence = where + ": " + words;
    }

    private static void due(String what, long got, long want) {
        if (got != want) {
            wrong++;
            System.out.println(what + " answered " + got + ", due is " + want + " <- " + sentence);
        }
    }

    private static void due(String what, boolean got, boolean want) {
        due(what, got ? 1 : 0, want ? 1 : 0);
    }

    /** An answer, or a number for what was thrown; what the document names is thrown just so. */
    private static int ask(BoundDesk desk, ToIntFunction<BoundDesk> call) {
        try {
            return call.applyAsInt(desk);
        } catch (RuntimeException e) {
            if (e.getClass() == IllegalArgumentException.class) {
                return ILLEGAL;
            }
            return e.getClass() == NoSuchElementException.class ? MISSING : OTHER;
        }
    }

    private static BoundDesk desk(int e, int m) {
        BoundDesk desk = new BoundDesk();
        due("format(" + e + ", " + m + ")", desk.format(e, m), true);
        formatE = e;
        formatM = m;
        return desk;
    }

    private static BoundDesk desk() {
        return desk(2, 1);
    }

    private static double number(int size) {
        int bias = (1 << (formatE - 1)) - 1;
        int e = size >> formatM;
        int m = size % (1 << formatM);
        if (e == (1 << formatE) - 1) {
            return INF;
        }
        return e == 0 ? m * Math.pow(2, 1 - bias - formatM) : ((1 << formatM) + m) * Math.pow(2, e - bias - formatM);
    }

    private static int infinite() {
        return ((1 << formatE) - 1) << formatM;
    }

    private static int sign() {
        return 1 << (formatE + formatM);
    }

    private static double largest() {
        return number(infinite() - 1);
    }

    private static int pattern(double x) {
        for (int size = 0; size <= infinite(); size++) {
            if (number(size) == Math.abs(x)) {
                return x < 0 ? sign() + size : size;
            }
        }
        throw new IllegalStateException(x + " is no number of the format");
    }

    private static double[] span(double low, double high) {
        return new double[] {low, high};
    }

    private static double[] one(double x) {
        return new double[] {x, x};
    }

    private static double[] all() {
        return span(-INF, INF);
    }

    private static String told(double[] s) {
        return s.length == 0 ? "EMPTY" : s[0] + " .. " + s[1];
    }

    private static int kind(double[] s) {
        if (s.length == 0) {
            return 0;
        }
        if (s[0] == -INF) {
            return s[1] == INF ? 5 : 4;
        }
        return s[1] == INF ? 3 : s[0] == s[1] ? 1 : 2;
    }

    private static void put(BoundDesk desk, int place, double[] s) {
        if (s.length == 0) {
            due("clear(" + place + ")", desk.clear(place), true);
        } else {
            due("set of " + told(s), desk.set(place, pattern(s[0]), pattern(s[1])), true);
        }
    }

    private static void holds(String what, BoundDesk desk, int place, double[] s) {
        due(what + ", kind", desk.kind(place), kind(s));
        due(what + ", low", ask(desk, d -> d.low(place)), s.length == 0 ? MISSING : pattern(s[0]));
        due(what + ", high", ask(desk, d -> d.high(place)), s.length == 0 ? MISSING : pattern(s[1]));
    }

    /** Spans of all kinds, another one in each place. */
    private static double[][] various() {
        return new double[][] {
            span(0.5, 1.5), one(-2), EMPTY, span(1, INF), span(-INF, -0.5), span(-INF, INF), span(-3, 3), one(3)};
    }

    private static BoundDesk filled(int e, int m) {
        BoundDesk desk = desk(e, m);
        for (int place = 0; place < 8; place++) {
            put(desk, place, various()[place]);
        }
        return desk;
    }

    private static BoundDesk filled() {
        return filled(2, 1);
    }

    private static void unchangedBut(String what, BoundDesk desk, int... changed) {
        for (int place = 0; place < 8; place++) {
            boolean free = false;
            for (int c : changed) {
                free |= c == place;
            }
            if (!free) {
                holds(what + ", PLACE " + place + " after it", desk, place, various()[place]);
            }
        }
    }

    private static void refuses(String what, int answer, ToIntFunction<BoundDesk> call) {
        BoundDesk desk = filled();
        due(what, ask(desk, call), answer);
        unchangedBut(what, desk);
    }

    /** A desk of the same format that has reckoned before: nothing of that may be left. */
    private static BoundDesk used() {
        BoundDesk desk = new BoundDesk();
        desk.format(formatE, formatM);
        put(desk, 0, one(1));
        put(desk, 1, span(-1, 1));
        ask(desk, d -> d.part(6, 0, 1));
        ask(desk, d -> d.sum(5, 0, 2));
        for (int place = 0; place < 8; place++) {
            put(desk, place, EMPTY);
        }
        return desk;
    }

    /** An operation, with to another place than those asked, the first of them, and the second. */
    private static void gives(int operation, double[] a, double[] b, double[] due) {
        String what = "operation " + operation + " of " + told(a) + " and " + told(b);
        for (int to : new int[] {5, 0, 7}) {
            BoundDesk desk = used();
            put(desk, 0, a);
            put(desk, 7, b);
            put(desk, 5, one(1));
            due(what, ask(desk, d -> d.does(operation, to, 0, 7)), kind(due));
            holds(what, desk, to, due);
        }
    }

    private static void givesOfOne(int operation, double[] a, double[] due) {
        gives(operation, a, EMPTY, due);
        gives(operation, a, one(3), due);
    }

    // ---- What it is

    private static void manyCalls() {
        sentence("What it is", "An object is used for at most 512 calls after it has been made;");
        BoundDesk desk = desk();
        put(desk, 0, span(0.5, 1));
        put(desk, 1, one(1));
        for (int call = 4; call <= 509; call++) {
            due("does, call " + call, ask(desk, d -> d.does(TIMES, 0, 0, 1)), 2);
        }
        holds("the last calls", desk, 0, span(0.5, 1));
    }

    // ---- Terms

    private static void formats() {
        sentence("Terms", "A FORMAT: E (2 .. 4) and M (1 .. 10).");
        for (int e = -1; e <= 6; e++) {
            for (int m = -1; m <= 12; m++) {
                boolean is = e >= 2 && e <= 4 && m >= 1 && m <= 10;
                due("format(" + e + ", " + m + ")", new BoundDesk().format(e, m), is);
            }
        }
    }

    private static void bitsOfPatterns() {
        sentence("Terms", "A PATTERN has 1 + E + M bits, as an int from 0 on: SIGN, E bits e, M bits m; BIAS is 2^(E-1) - 1.");
        for (int e = 2; e <= 4; e++) {
            for (int m = 1; m <= 10; m++) {
                BoundDesk desk = desk(e, m);
                put(desk, 0, all());
                int end = 1 << (1 + e + m);
                due("has 0", desk.has(0, 0), true);
                due("has -1", desk.has(0, -1), false);
                due("has the largest finite one", desk.has(0, infinite() - 1), true);
                due("has the largest finite one below 0", desk.has(0, sign() + infinite() - 1), true);
                due("has SIGN alone", desk.has(0, sign()), true);
                due("has one bit more", desk.has(0, end), false);
                due("has 1 with one bit more", desk.has(0, end + 1), false);
                due("set with one bit more", desk.set(0, end, infinite()), false);
                due("set from -1", desk.set(0, -1, infinite()), false);
                due("set from the least int", desk.set(0, Integer.MIN_VALUE, infinite()), false);
                due("set to the largest int", desk.set(0, 0, Integer.MAX_VALUE), false);
                // The PATTERN with e BIAS and m 0 is 1: it alone is its own square and above 0.
                int bias = (1 << (e - 1)) - 1;
                due("set to 1", desk.set(1, bias << m, bias << m), true);
                due("1 * 1", ask(desk, d -> d.does(SQUARE, 1, 1, 1)), 1);
                due("1 * 1", ask(desk, d -> d.low(1)), bias << m);
            }
        }
    }

    private static void numbersOfPatterns() {
        sentence("Terms", "e neither 0 nor all ones: (2^M + m) * 2^(e - BIAS - M). e is 0: m * 2^(1 - BIAS - M).");
        for (int e = 2; e <= 4; e++) {
            for (int m = 1; m <= 10; m++) {
                desk(e, m);
                // On both sides of each change of e the steps between neighbours are as told.
                for (int edge = 1; edge < (1 << e); edge++) {
                    stepsBeside(edge << m);
                }
            }
        }
        desk();
        BoundDesk literal = new BoundDesk();
        due("from 1 to its neighbour", literal.set(0, 7168, 7169), true);
        due("2^-10 is 64 times 2^-16", ask(literal, d -> d.width(0)), 64);
        due("from 2 to its neighbour", literal.set(0, 8192, 8193), true);
        due("2^-9 is 128 times 2^-16", ask(literal, d -> d.width(0)), 128);
        due("the largest with e 0 and the least with e 1", literal.set(0, 1023, 1024), true);
        due("2^-16", ask(literal, d -> d.width(0)), 1);
    }

    private static void stepsBeside(int edge) {
        BoundDesk desk = new BoundDesk();
        desk.format(formatE, formatM);
        for (int low = Math.max(edge - 3, 0); low < edge + 2; low++) {
            if (low + 1 >= infinite()) {
                break;
            }
            int under = low;
            due("set of neighbours", desk.set(0, under, under + 1), true);
            int step = pattern(number(under + 1) - number(under));
            due("width from PATTERN " + under, ask(desk, d -> d.width(0)), step);
            due("set of neighbours below 0", desk.set(0, sign() + under + 1, sign() + under), true);
            due("width below 0 to PATTERN " + under, ask(desk, d -> d.width(0)), step);
        }
    }

    private static void infinitePatterns() {
        sentence("Terms", "e all ones and m 0: INFINITE; no other one.");
        for (int e = 2; e <= 4; e++) {
            for (int m = 1; m <= 10; m++) {
                BoundDesk desk = desk(e, m);
                due("the largest finite one", desk.set(0, 0, infinite() - 1), true);
                due("it has an end", desk.kind(0), 2);
                due("INFINITE", desk.set(0, 0, infinite()), true);
                due("it has no end", desk.kind(0), 3);
                for (int more : new int[] {1, 1 << (m - 1), (1 << m) - 1}) {
                    due("e all ones, m " + more, desk.set(0, 0, infinite() + more), false);
                    due("below 0, e all ones, m " + more, desk.set(0, sign() + infinite() + more, 0), false);
                    due("has e all ones, m " + more, desk.has(0, infinite() + more), false);
                }
            }
        }
    }

    private static void signs() {
        sentence("Terms", "Below 0, if SIGN is 1 (0 is told as PATTERN 0).");
        BoundDesk desk = desk();
        due("set(0, 8, 8)", desk.set(0, 8, 8), true);
        holds("SIGN and 0", desk, 0, one(0));
        due("set(0, 0, 8)", desk.set(0, 0, 8), true);
        holds("0 to SIGN and 0", desk, 0, one(0));
        due("set(0, 8, 0)", desk.set(0, 8, 0), true);
        holds("SIGN and 0 to 0", desk, 0, one(0));
        due("middle of 0", ask(desk, d -> d.middle(0)), 0);
        due("width of 0", ask(desk, d -> d.width(0)), 0);
        due("set(0, 9, 8)", desk.set(0, 9, 8), true);
        holds("-0.5 to SIGN and 0", desk, 0, span(-0.5, 0));
        due("set(0, 8, 9)", desk.set(0, 8, 9), false);
        due("set(0, 8, 1)", desk.set(0, 8, 1), true);
        holds("SIGN and 0 to 0.5", desk, 0, span(0, 0.5));
        due("set(0, 13, 10)", desk.set(0, 13, 10), true);
        holds("-3 to -1", desk, 0, span(-3, -1));
        // All that rounds to 0 from below, or is turned about at 0, is told as PATTERN 0 too.
        gives(NEGATIVE, one(0), EMPTY, one(0));
        gives(NEGATIVE, span(0, 3), EMPTY, span(-3, 0));
        gives(TIMES, one(-0.5), one(0.5), span(-0.5, 0));
        gives(TIMES, one(-0.5), one(0), one(0));
        gives(OVER, one(0), one(-1), one(0));
        gives(OVER, one(-0.5), one(3), span(-0.5, 0));
    }

    private static void spans() {
        sentence("Terms", "A SPAN: EMPTY; or all real numbers from LOW to HIGH, LOW not above HIGH; each of these is a "
            + "finite number of the FORMAT; or LOW is INFINITE below 0, HIGH INFINITE above 0 (then there is no end on that side).");
        for (int low = 0; low < 16; low++) {
            for (int high = 0; high < 16; high++) {
                BoundDesk desk = desk();
                boolean patterns = low % 8 <= 6 && high % 8 <= 6;
                double from = number(low % 8) * (low < 8 ? 1 : -1);
                double to = number(high % 8) * (high < 8 ? 1 : -1);
                boolean is = patterns && from <= to && from != INF && to != -INF;
                due("set(0, " + low + ", " + high + ")", desk.set(0, low, high), is);
                if (patterns) {
                    holds("set(0, " + low + ", " + high + ")", desk, 0, is ? span(from, to) : EMPTY);
                }
            }
        }
        sentence("Terms", "all real numbers from LOW to HIGH");
        // 0.75 is no number of the format, and yet in 0.5 .. 1: so 0.75 + 0.75 makes no gap.
        gives(PLUS, span(0.5, 1), span(0.5, 1), span(1, 2));
        gives(BOTH, span(0.5, 1), span(1, 1.5), one(1));
    }

    private static void spanOf() {
        sentence("Terms", "THE SPAN OF some real numbers is EMPTY if there are none, else the least SPAN in which all of them are.");
        gives(BOTH, one(0.5), one(1), EMPTY);
        gives(OVER, all(), one(0), EMPTY);
        givesOfOne(ROOT, span(-INF, -0.5), EMPTY);
        // Exact ends stay; others go outwards by one number and no more, to either side.
        gives(PLUS, one(2), one(1), one(3));
        gives(PLUS, one(2), one(0.5), span(2, 3));
        gives(PLUS, one(-2), one(-0.5), span(-3, -2));
        gives(OVER, one(1), one(3), span(0, 0.5));
        gives(OVER, one(-1), one(3), span(-0.5, 0));
        // Too large: the least SPAN about it begins with the largest number of all.
        gives(PLUS, one(3), one(0.5), span(3, INF));
        gives(PLUS, one(-3), one(-0.5), span(-INF, -3));
        gives(TIMES, one(3), one(-3), span(-INF, -3));
        gives(OVER, one(3), one(0.5), span(3, INF));
        givesOfOne(SQUARE, one(-3), span(3, INF));
        // Too small: the least SPAN about it is from 0 to the least number of all.
        gives(TIMES, one(0.5), one(0.5), span(0, 0.5));
        gives(TIMES, one(-0.5), one(-0.5), span(0, 0.5));
        // What only comes near to 0 has 0 as its end.
        gives(OVER, one(1), span(2, INF), span(0, 0.5));
        gives(OVER, one(1), span(-INF, -2), span(-0.5, 0));
        desk(4, 10);
        gives(PLUS, one(largest()), one(number(1)), span(largest(), INF));
        gives(MINUS, one(-largest()), one(number(1)), span(-INF, -largest()));
        gives(PLUS, one(1), one(number(1)), span(1, number(7169)));
        gives(MINUS, one(1), one(number(1)), span(number(7167), 1));
        gives(TIMES, one(number(1)), one(number(1)), span(0, number(1)));
        gives(TIMES, one(-largest()), one(largest()), span(-INF, -largest()));
        gives(OVER, one(number(1)), one(largest()), span(0, number(1)));
        gives(OVER, one(largest()), one(number(1)), span(largest(), INF));
        givesOfOne(SQUARE, one(number(1)), span(0, number(1)));
        givesOfOne(SQUARE, one(number(7169)), span(number(7170), number(7171)));
        givesOfOne(ROOT, one(number(1)), one(1 / 256.0));
        givesOfOne(ROOT, one(number(7169)), span(1, number(7169)));
        givesOfOne(ROOT, one(number(3)), span(number(443), number(444)));
        givesOfOne(ROOT, one(largest()), span(number(pattern(16) - 1), 16));
        desk();
    }

    private static void places() {
        sentence("Terms", "PLACES 0 .. 7 have a SPAN each.");
        BoundDesk desk = filled();
        unchangedBut("eight SPANS", desk);
        put(desk, 7, one(1));
        unchangedBut("another SPAN for 7", desk, 7);
        holds("another SPAN for 7", desk, 7, one(1));
    }

    private static void operationsOfTwo() {
        desk();
        sentence("Terms", "0 x + y.");
        gives(PLUS, span(1, INF), span(-3, 1), span(-2, INF));
        gives(PLUS, span(-INF, 1), span(1, INF), all());
        gives(PLUS, span(-INF, 1), span(-INF, 1), span(-INF, 2));
        gives(PLUS, one(-3), one(3), one(0));
        sentence("Terms", "1 x - y.");
        gives(MINUS, span(1, 2), span(0.5, 3), span(-2, 1.5));
        gives(MINUS, span(1, INF), span(1, INF), all());
        gives(MINUS, span(1, INF), span(-INF, 1), span(0, INF));
        gives(MINUS, one(1), span(1, INF), span(-INF, 0));
        gives(MINUS, one(1), span(-INF, 1), span(0, INF));
        gives(MINUS, one(3), one(3), one(0));
        sentence("Terms", "2 x * y.");
        gives(TIMES, all(), one(0), one(0));
        gives(TIMES, one(0), span(1, INF), one(0));
        gives(TIMES, span(0, 0.5), span(-INF, -1), span(-INF, 0));
        gives(TIMES, span(-0.5, 0.5), span(1, INF), all());
        gives(TIMES, span(-1, 2), span(-1.5, 0.5), span(-3, 1.5));
        gives(TIMES, span(-2, -1), span(-1.5, 1), span(-2, 3));
        gives(TIMES, span(-INF, -1), span(-INF, -1), span(1, INF));
        gives(TIMES, span(-INF, 0), span(0, INF), span(-INF, 0));
        // Each of the four pairs of ends makes the least product once, and the greatest once.
        gives(TIMES, span(1, 2), span(1, 1.5), span(1, 3));
        gives(TIMES, span(1, 2), span(-1.5, -1), span(-3, -1));
        gives(TIMES, span(-2, -1), span(1, 1.5), span(-3, -1));
        gives(TIMES, span(-2, -1), span(-1.5, -1), span(1, 3));
        desk(4, 10);
        gives(TIMES, span(1, INF), one(2), span(2, INF));
        gives(TIMES, one(-2), span(1, INF), span(-INF, -2));
        gives(TIMES, span(-INF, -1), span(largest(), INF), span(-INF, -largest()));
        gives(TIMES, all(), span(-number(1), largest()), all());
        gives(TIMES, all(), one(0), one(0));
        desk();
        sentence("Terms", "3 x / y, y not 0.");
        gives(OVER, one(1), one(0), EMPTY);
        gives(OVER, one(0), one(0), EMPTY);
        gives(OVER, one(1), span(0, 2), span(0.5, INF));
        gives(OVER, one(1), span(-2, 0), span(-INF, -0.5));
        gives(OVER, one(1), span(-0.5, 2), all());
        gives(OVER, one(0), span(-0.5, 2), one(0));
        gives(OVER, one(0), all(), one(0));
        gives(OVER, span(0, 1), span(0, 1), span(0, INF));
        gives(OVER, span(-1, 0), span(0, 1), span(-INF, 0));
        gives(OVER, span(-1, 1), span(0, 1), all());
        gives(OVER, span(1, INF), span(1, INF), span(0, INF));
        gives(OVER, span(-INF, -1), span(1, INF), span(-INF, 0));
        gives(OVER, span(-INF, -1), span(-2, -1), span(0.5, INF));
        gives(OVER, span(1, 2), span(1, INF), span(0, 2));
        gives(OVER, span(-2, 2), span(1, INF), span(-2, 2));
        // In the format with the finest numbers and the largest ones an end that is missing stays so.
        desk(4, 10);
        gives(OVER, span(-INF, -1), one(2), span(-INF, -0.5));
        gives(OVER, span(1, INF), one(-2), span(-INF, -0.5));
        gives(OVER, span(1, INF), one(largest()), span(number(256), INF));
        gives(OVER, all(), one(largest()), all());
        gives(OVER, one(largest()), span(1, INF), span(0, largest()));
        gives(OVER, one(-largest()), span(largest(), INF), span(-1, 0));
        desk();
        sentence("Terms", "4 x, and y (all that is in one of them).");
        gives(EITHER, one(-3), one(3), span(-3, 3));
        gives(EITHER, EMPTY, one(3), one(3));
        gives(EITHER, one(3), EMPTY, one(3));
        gives(EITHER, EMPTY, EMPTY, EMPTY);
        gives(EITHER, span(-INF, -3), span(3, INF), all());
        gives(EITHER, span(0, 3), span(1, 2), span(0, 3));
        sentence("Terms", "5 what is in both.");
        gives(BOTH, span(0, 1), span(1, 2), one(1));
        gives(BOTH, span(0, 1), span(1.5, 2), EMPTY);
        gives(BOTH, span(1.5, 2), span(0, 1), EMPTY);
        gives(BOTH, EMPTY, all(), EMPTY);
        gives(BOTH, all(), EMPTY, EMPTY);
        gives(BOTH, EMPTY, EMPTY, EMPTY);
        gives(BOTH, all(), all(), all());
        gives(BOTH, span(-INF, 1), span(-1, INF), span(-1, 1));
        gives(BOTH, span(-INF, -3), span(3, INF), EMPTY);
        sentence("Terms", "6 the lesser one of x and y.");
        gives(LESSER, span(0, 3), span(1, 2), span(0, 2));
        gives(LESSER, one(1), all(), span(-INF, 1));
        gives(LESSER, span(1, INF), span(2, INF), span(1, INF));
        sentence("Terms", "7 the greater one of x and y.");
        gives(GREATER, span(0, 3), span(1, 2), span(1, 3));
        gives(GREATER, one(1), all(), span(1, INF));
        gives(GREATER, span(-INF, 1), span(-INF, 2), span(-INF, 2));
        sentence("Terms", "(0 to 3, 6, 7 are EMPTY if A or B is.)");
        for (int operation : new int[] {PLUS, MINUS, TIMES, OVER, LESSER, GREATER}) {
            for (double[] other : new double[][] {one(0), span(1, 2), all(), EMPTY}) {
                gives(operation, EMPTY, other, EMPTY);
                gives(operation, other, EMPTY, EMPTY);
            }
        }
    }

    private static void operationsOfOne() {
        desk();
        sentence("Terms", "8 -x.");
        givesOfOne(NEGATIVE, span(-1, 3), span(-3, 1));
        givesOfOne(NEGATIVE, span(1, INF), span(-INF, -1));
        givesOfOne(NEGATIVE, span(-INF, -1), span(1, INF));
        givesOfOne(NEGATIVE, all(), all());
        givesOfOne(NEGATIVE, EMPTY, EMPTY);
        sentence("Terms", "9 x * x.");
        givesOfOne(SQUARE, span(-1, 1), span(0, 1));
        givesOfOne(SQUARE, span(-1.5, -1), span(1, 3));
        givesOfOne(SQUARE, span(-1.5, 0), span(0, 3));
        givesOfOne(SQUARE, span(-1, 1.5), span(0, 3));
        givesOfOne(SQUARE, span(-1.5, 0.5), span(0, 3));
        givesOfOne(SQUARE, span(-0.5, 1.5), span(0, 3));
        givesOfOne(SQUARE, span(-INF, -1), span(1, INF));
        givesOfOne(SQUARE, span(-INF, 1), span(0, INF));
        givesOfOne(SQUARE, all(), span(0, INF));
        givesOfOne(SQUARE, one(0), one(0));
        givesOfOne(SQUARE, EMPTY, EMPTY);
        sentence("Terms", "10 the roots y not below 0 with y * y = x.");
        givesOfOne(ROOT, one(1), one(1));
        givesOfOne(ROOT, one(0), one(0));
        givesOfOne(ROOT, span(-3, -0.5), EMPTY);
        givesOfOne(ROOT, span(-3, 0), one(0));
        givesOfOne(ROOT, span(-3, 1), span(0, 1));
        givesOfOne(ROOT, span(-INF, 0), one(0));
        givesOfOne(ROOT, span(1, INF), span(1, INF));
        givesOfOne(ROOT, span(3, INF), span(1.5, INF));
        givesOfOne(ROOT, all(), span(0, INF));
        givesOfOne(ROOT, one(2), span(1, 1.5));
        givesOfOne(ROOT, one(3), span(1.5, 2));
        givesOfOne(ROOT, EMPTY, EMPTY);
        desk(4, 10);
        givesOfOne(ROOT, span(4, INF), span(2, INF));
        givesOfOne(ROOT, all(), span(0, INF));
        desk();
        sentence("Terms", "11 the size of x (without SIGN).");
        givesOfOne(SIZE, span(-2, 1), span(0, 2));
        givesOfOne(SIZE, span(-1, 2), span(0, 2));
        givesOfOne(SIZE, span(-2, -1), span(1, 2));
        givesOfOne(SIZE, span(1, 2), span(1, 2));
        givesOfOne(SIZE, span(-2, 0), span(0, 2));
        givesOfOne(SIZE, span(-2, 0.5), span(0, 2));
        givesOfOne(SIZE, span(-0.5, 2), span(0, 2));
        givesOfOne(SIZE, span(-2, -0.5), span(0.5, 2));
        givesOfOne(SIZE, one(0), one(0));
        givesOfOne(SIZE, span(-INF, -3), span(3, INF));
        givesOfOne(SIZE, span(-INF, 1), span(0, INF));
        givesOfOne(SIZE, all(), span(0, INF));
        givesOfOne(SIZE, EMPTY, EMPTY);
    }

    // ---- Promise 1: A new object

    private static void newObject() {
        sentence("Promise 1", "E is 4, M 10;");
        BoundDesk desk = new BoundDesk();
        due("INFINITE on both sides", desk.set(0, 31744, 15360), true);
        due("beyond INFINITE", desk.set(0, 31744, 15361), false);
        due("beyond INFINITE below 0", desk.set(0, 31745, 15360), false);
        due("beyond 15 bits", desk.set(0, 32768, 15360), false);
        due("has the largest number", desk.has(0, 15359), true);
        due("has INFINITE", desk.has(0, 15360), false);
        // 1 + 1 = 2, and 2 and the least number above 0 are 17 powers of 2 apart.
        due("1", desk.set(1, 7168, 7168), true);
        due("1 + 1", ask(desk, d -> d.does(PLUS, 1, 1, 1)), 1);
        due("1 + 1", ask(desk, d -> d.low(1)), 8192);
        due("2^-16", desk.set(2, 1, 1), true);
        due("2 times 2^-16", ask(desk, d -> d.does(TIMES, 3, 1, 2)), 1);
        due("2 times 2^-16", ask(desk, d -> d.high(3)), 2);
        due("its root", ask(desk, d -> d.does(ROOT, 3, 2, 2)), 1);
        due("its root, 2^-8", ask(desk, d -> d.high(3)), 256);
        sentence("Promise 1", "all PLACES are EMPTY.");
        BoundDesk other = new BoundDesk();
        for (int place = 0; place < 8; place++) {
            due("kind(" + place + ")", other.kind(place), 0);
        }
    }

    // ---- Promise 2: format

    private static void format() {
        sentence("Promise 2", "The FORMAT; all PLACES are EMPTY: true;");
        for (int e = 2; e <= 4; e++) {
            for (int m = 1; m <= 10; m++) {
                BoundDesk desk = filled(4, 10);
                due("format(" + e + ", " + m + ")", desk.format(e, m), true);
                for (int place = 0; place < 8; place++) {
                    due("kind(" + place + ") after format(" + e + ", " + m + ")", desk.kind(place), 0);
                }
                formatE = e;
                formatM = m;
                put(desk, 0, span(-INF, largest()));
                due("one more is INFINITE", desk.set(0, 0, infinite()), true);
                due("two more is none", desk.set(0, 0, infinite() + 1), false);
                put(desk, 1, one(1));
                due("1 and 1", ask(desk, d -> d.sum(1, 1, 1)), 1);
                holds("1", desk, 1, one(1));
            }
        }
        BoundDesk same = filled();
        due("the same FORMAT again", same.format(2, 1), true);
        for (int place = 0; place < 8; place++) {
            due("kind(" + place + ")", same.kind(place), 0);
        }
        sentence("Promise 2", "false, changing nothing, if there is none such.");
        int[][] none = {{1, 1}, {1, 10}, {5, 1}, {5, 10}, {2, 0}, {4, 0}, {2, 11}, {4, 11}, {0, 0}, {-1, 1}, {2, -1},
            {34, 1}, {2, 33}, {-30, 1}, {2, -31}, {258, 1}, {2, 257},
            {Integer.MAX_VALUE, 1}, {Integer.MIN_VALUE, 1}, {2, Integer.MAX_VALUE}, {2, Integer.MIN_VALUE}};
        for (int[] f : none) {
            String what = "format(" + f[0] + ", " + f[1] + ")";
            refuses(what, 0, d -> d.format(f[0], f[1]) ? 1 : 0);
            BoundDesk desk = filled();
            due(what, desk.format(f[0], f[1]), false);
            due("E 2, M 1 after it: INFINITE", desk.set(0, 14, 6), true);
            due("E 2, M 1 after it: no PATTERN", desk.set(0, 14, 7), false);
            put(desk, 0, one(2));
            put(desk, 1, one(0.5));
            due("E 2, M 1 after it: 2 + 0.5", ask(desk, d -> d.does(PLUS, 0, 0, 1)), 2);
            holds("E 2, M 1 after it: 2 + 0.5", desk, 0, span(2, 3));
        }
    }

    // ---- Promise 3: set

    private static void set() {
        sentence("Promise 3", "A PLACE has the SPAN from the PATTERN low to the PATTERN high: true;");
        double[][] spans = {one(0), one(3), one(-3), one(0.5), span(-3, 3), span(2, 3), span(-3, -2), span(0, 0.5),
            span(-0.5, 0), span(3, INF), span(-3, INF), span(-INF, 3), span(-INF, -3), all()};
        for (double[] s : spans) {
            for (int place = 0; place < 8; place++) {
                BoundDesk desk = filled();
                due("set of " + told(s), desk.set(place, pattern(s[0]), pattern(s[1])), true);
                holds("set of " + told(s), desk, place, s);
                unchangedBut("set of " + told(s), desk, place);
            }
        }
        sentence("Promise 3", "false, changing nothing, if there is no such PLACE");
        for (int no : NO_PLACES) {
            refuses("set(" + no + ", 0, 1)", 0, d -> d.set(no, 0, 1) ? 1 : 0);
        }
        sentence("Promise 3", "false, changing nothing, if there is no such .. PATTERN");
        int[] noPatterns = {7, 15, 16, 17, 32, -1, -2, -8, 1 << 16, Integer.MAX_VALUE, Integer.MIN_VALUE};
        for (int no : noPatterns) {
            for (int place : new int[] {0, 2}) {
                refuses("set to " + no, 0, d -> d.set(place, 14, no) ? 1 : 0);
                refuses("set from " + no, 0, d -> d.set(place, no, 6) ? 1 : 0);
                refuses("set from and to " + no, 0, d -> d.set(place, no, no) ? 1 : 0);
            }
        }
        sentence("Promise 3", "false, changing nothing, if there is .. no such SPAN.");
        int[][] none = {{1, 0}, {1, 8}, {3, 2}, {5, 4}, {0, 9}, {8, 9}, {9, 10}, {12, 13}, {1, 9},
            {6, 6}, {6, 5}, {6, 0}, {6, 14}, {14, 14}, {13, 14}, {0, 14}, {5, 14}, {6, 13}};
        for (int[] s : none) {
            refuses("set(0, " + s[0] + ", " + s[1] + ")", 0, d -> d.set(0, s[0], s[1]) ? 1 : 0);
            refuses("set(2, " + s[0] + ", " + s[1] + ")", 0, d -> d.set(2, s[0], s[1]) ? 1 : 0);
        }
    }

    // ---- Promise 4: clear

    private static void clear() {
        sentence("Promise 4", "A PLACE becomes EMPTY: true;");
        for (int place = 0; place < 8; place++) {
            BoundDesk desk = filled();
            due("clear(" + place + ")", desk.clear(place), true);
            holds("clear(" + place + ")", desk, place, EMPTY);
            unchangedBut("clear(" + place + ")", desk, place);
            due("clear(" + place + ") of an EMPTY one", desk.clear(place), true);
            holds("clear(" + place + ") of an EMPTY one", desk, place, EMPTY);
        }
        sentence("Promise 4", "false if there is none such.");
        for (int no : NO_PLACES) {
            refuses("clear(" + no + ")", 0, d -> d.clear(no) ? 1 : 0);
        }
    }

    // ---- Promise 5: does

    private static void does() {
        desk();
        sentence("Promise 5", "PLACE to becomes what an OPERATION gives of those of a and b");
        for (int operation = PLUS; operation <= SIZE; operation++) {
            double[][] ofOnes = {one(2), one(0), one(1), one(1), one(1), one(1), one(1), one(1), one(-1), one(1), one(1), one(1)};
            int asked = operation;
            for (int place = 0; place < 8; place++) {
                int only = place;
                BoundDesk desk = filled();
                put(desk, only, one(1));
                String what = "operation " + operation + " of 1 and 1, all in PLACE " + only;
                due(what, ask(desk, d -> d.does(asked, only, only, only)), 1);
                holds(what, desk, only, ofOnes[operation]);
                unchangedBut(what, desk, only);
            }
        }
        BoundDesk swapped = filled();
        due("a minus b", ask(swapped, d -> d.does(MINUS, 2, 7, 1)), 3);
        holds("3 - -2", swapped, 2, span(3, INF));
        due("b minus a", ask(swapped, d -> d.does(MINUS, 2, 1, 7)), 4);
        holds("-2 - 3", swapped, 2, span(-INF, -3));
        unchangedBut("what is asked stays", swapped, 2);
        sentence("Promise 5", "(8 to 11: b isn't asked)");
        double[][] ofA = {span(-1.5, -0.5), span(0, 3), span(0.5, 1.5), span(0.5, 1.5)};
        for (int operation = NEGATIVE; operation <= SIZE; operation++) {
            int asked = operation;
            for (int b : new int[] {0, 2, 5, 7, -1, 8, 99, Integer.MAX_VALUE, Integer.MIN_VALUE}) {
                BoundDesk desk = filled();
                String what = "operation " + operation + " with b " + b;
                due(what, ask(desk, d -> d.does(asked, 3, 0, b)), 2);
                holds(what, desk, 3, ofA[operation - NEGATIVE]);
                unchangedBut(what, desk, 3);
            }
        }
        sentence("Promise 5", "its kind.");
        gives(EITHER, EMPTY, EMPTY, EMPTY);
        gives(EITHER, one(0), one(0), one(0));
        gives(EITHER, one(0), one(0.5), span(0, 0.5));
        gives(EITHER, one(0), span(0, INF), span(0, INF));
        gives(EITHER, one(0), span(-INF, 0), span(-INF, 0));
        gives(EITHER, span(0, INF), span(-INF, 0), all());
        sentence("Promise 5", "IllegalArgumentException: there is no such OPERATION");
        for (int no : new int[] {-1, 12, 13, 16, -12, 32, Integer.MAX_VALUE, Integer.MIN_VALUE}) {
            refuses("does(" + no + ", 0, 0, 0)", ILLEGAL, d -> d.does(no, 0, 0, 0));
            refuses("does(" + no + ", 8, 8, 8)", ILLEGAL, d -> d.does(no, 8, 8, 8));
        }
        sentence("Promise 5", "IllegalArgumentException: there is no such .. PLACE.");
        for (int operation = PLUS; operation <= SIZE; operation++) {
            int asked = operation;
            for (int no : NO_PLACES) {
                refuses("does(" + asked + ", " + no + ", 0, 1)", ILLEGAL, d -> d.does(asked, no, 0, 1));
                refuses("does(" + asked + ", 0, " + no + ", 1)", ILLEGAL, d -> d.does(asked, 0, no, 1));
                refuses("does(" + asked + ", 2, " + no + ", 2)", ILLEGAL, d -> d.does(asked, 2, no, 2));
                if (operation <= GREATER) {
                    refuses("does(" + asked + ", 0, 1, " + no + ")", ILLEGAL, d -> d.does(asked, 0, 1, no));
                    // EMPTY is a's SPAN here: b is looked for all the same.
                    refuses("does(" + asked + ", 0, 2, " + no + ")", ILLEGAL, d -> d.does(asked, 0, 2, no));
                }
            }
        }
    }

    // ---- Promise 6: part

    /** The places asked are others than those written, or each of them one of those. */
    private static void parts(double[] a, double[] b, double[] above, double[] below) {
        String what = "part of " + told(a) + " and " + told(b);
        int[][] ways = {{0, 4, 5}, {6, 0, 1}, {3, 3, 4}, {3, 4, 3}, {3, 2, 3}, {3, 2, 4}, {3, 3, 6}, {3, 4, 6}};
        for (int[] way : ways) {
            BoundDesk desk = used();
            put(desk, way[0], one(1));
            put(desk, way[0] + 1, one(1));
            put(desk, way[1], a);
            put(desk, way[2], b);
            due(what, ask(desk, d -> d.part(way[0], way[1], way[2])), kind(above) + 8 * kind(below));
            holds(what + ", first", desk, way[0], above);
            holds(what + ", second", desk, way[0] + 1, below);
        }
    }

    private static void part() {
        desk();
        sentence("Promise 6", "PLACES to and to + 1 become THE SPAN OF all x / y with y above 0, and that of all with y below 0, "
            + "x being in a's, y in b's");
        parts(one(1), span(-0.5, 0.5), span(2, INF), span(-INF, -2));
        parts(one(1), span(-1, 2), span(0.5, INF), span(-INF, -1));
        parts(one(-1), span(-1, 2), span(-INF, -0.5), span(1, INF));
        parts(one(0), span(-1, 2), one(0), one(0));
        parts(span(-1, 1), span(-1, 2), all(), all());
        parts(span(0, 1), span(-1, 2), span(0, INF), span(-INF, 0));
        parts(one(1), span(0, 2), span(0.5, INF), EMPTY);
        parts(one(1), span(-2, 0), EMPTY, span(-INF, -0.5));
        parts(one(1), span(0.5, 2), span(0.5, 2), EMPTY);
        parts(one(1), span(-2, -0.5), EMPTY, span(-2, -0.5));
        parts(one(1), one(0), EMPTY, EMPTY);
        parts(one(0), one(0), EMPTY, EMPTY);
        parts(all(), one(0), EMPTY, EMPTY);
        parts(EMPTY, all(), EMPTY, EMPTY);
        parts(all(), EMPTY, EMPTY, EMPTY);
        parts(EMPTY, EMPTY, EMPTY, EMPTY);
        parts(one(1), all(), span(0, INF), span(-INF, 0));
        parts(one(1), span(1, INF), span(0, 1), EMPTY);
        parts(one(1), span(-INF, -1), EMPTY, span(-1, 0));
        parts(span(1, INF), all(), span(0, INF), span(-INF, 0));
        parts(span(-INF, -1), all(), span(-INF, 0), span(0, INF));
        parts(all(), all(), all(), all());
        parts(one(1), span(-3, 3), span(0, INF), span(-INF, 0));
        parts(one(3), span(-0.5, 0.5), span(3, INF), span(-INF, -3));
        sentence("Promise 6", "the kind of the first one, and 8 times that of the second one.");
        BoundDesk desk = desk();
        put(desk, 0, one(1));
        put(desk, 1, span(-0.5, 0.5));
        due("part(6, 0, 1)", ask(desk, d -> d.part(6, 0, 1)), 35);
        put(desk, 0, all());
        due("part(6, 0, 0)", ask(desk, d -> d.part(6, 0, 0)), 45);
        put(desk, 0, EMPTY);
        due("part(6, 0, 0) of EMPTY", ask(desk, d -> d.part(6, 0, 0)), 0);
        put(desk, 0, one(1));
        due("part(6, 0, 0) of 1", ask(desk, d -> d.part(6, 0, 0)), 1);
        put(desk, 1, one(-1));
        due("part(6, 0, 1) of 1 and -1", ask(desk, d -> d.part(6, 0, 1)), 8);
        BoundDesk others = filled();
        due("part(2, 0, 1)", ask(others, d -> d.part(2, 0, 1)), 16);
        unchangedBut("part(2, 0, 1)", others, 2, 3);
        sentence("Promise 6", "IllegalArgumentException: there is no such PLACE.");
        // 7 + 1 is none, -1 + 1 is one but -1 is none; the largest int and 1 wrap around.
        refuses("part(7, 0, 1)", ILLEGAL, d -> d.part(7, 0, 1));
        for (int no : NO_PLACES) {
            refuses("part(" + no + ", 0, 1)", ILLEGAL, d -> d.part(no, 0, 1));
            refuses("part(0, " + no + ", 1)", ILLEGAL, d -> d.part(0, no, 1));
            refuses("part(0, 1, " + no + ")", ILLEGAL, d -> d.part(0, 1, no));
            refuses("part(0, 2, " + no + ")", ILLEGAL, d -> d.part(0, 2, no));
            refuses("part(0, " + no + ", 2)", ILLEGAL, d -> d.part(0, no, 2));
        }
    }

    // ---- Promise 7: sum

    private static void sums(double[] due, double[]... terms) {
        for (int from = 0; from + terms.length <= 8; from++) {
            for (int to = 0; to < 8; to++) {
                int first = from;
                int into = to;
                BoundDesk desk = used();
                // The neighbours of those summed hold what would be seen in the sum.
                for (int place = 0; place < 8; place++) {
                    put(desk, place, all());
                }
                for (int i = 0; i < terms.length; i++) {
                    put(desk, first + i, terms[i]);
                }
                String what = "sum(" + into + ", " + first + ", " + terms.length + ")";
                due(what, ask(desk, d -> d.sum(into, first, terms.length)), kind(due));
                holds(what, desk, into, due);
                for (int i = 0; i < terms.length; i++) {
                    if (first + i != into) {
                        holds(what + ", what was summed", desk, first + i, terms[i]);
                    }
                }
            }
        }
    }

    private static void sum() {
        desk();
        sentence("Promise 7", "PLACE to becomes THE SPAN OF all sums of one number each of many PLACES from one on: its kind.");
        sums(one(3), one(3));
        sums(EMPTY, EMPTY);
        sums(all(), all());
        sums(span(-INF, 0.5), span(-INF, 0.5));
        sums(span(2, 3), span(0.5, 1), span(1.5, 2));
        sums(EMPTY, one(1), EMPTY);
        sums(EMPTY, EMPTY, one(1));
        sums(EMPTY, all(), EMPTY, all());
        sums(span(1.5, INF), one(1), one(1), span(-0.5, INF));
        sums(all(), span(0, INF), span(-INF, 0));
        sums(span(-2, 2), span(-0.5, 0.5), span(-0.5, 0.5), span(-1, 1));
        sums(one(3), one(0.5), one(0.5), one(0.5), one(0.5), one(0.5), one(0.5), one(0), one(0));
        sums(all(), all(), all(), all(), all(), all(), all(), all(), all());
        double[] above = span(0, INF);
        sums(above, above, above, above, above, above, above, above, above);
        sums(all(), one(3), one(3), one(3), one(3), one(-3), one(-3), one(-3), all());
        sentence("What it is", "sums of many, rounded once.");
        sums(one(3), one(2), one(0.5), one(0.5));
        sums(one(-3), one(-0.5), one(-2), one(-0.5));
        sums(span(2, 3), one(1), one(1), one(0.5));
        // On its way each of these is beyond the largest number, and at its end it is not.
        sums(one(3), one(3), one(3), one(-3));
        sums(one(0), one(3), one(3), one(3), one(3), one(-3), one(-3), one(-3), one(-3));
        sums(one(-2), one(-3), one(-3), one(1), one(3));
        sums(span(3, INF), one(3), one(3), one(3), one(3), one(3), one(3), one(3), one(3));
        sums(span(-INF, -3), one(-3), one(-3), one(-3), one(-3), one(-3), one(-3), one(-3), one(-3));
        desk(4, 10);
        sums(one(largest()), one(largest()), one(number(1)), one(-number(1)));
        sums(span(largest(), INF), one(largest()), one(largest()), one(number(1)), one(-largest()));
        sums(one(0), one(largest()), one(number(1)), one(-largest()), one(-number(1)));
        desk();
        sentence("Promise 7", "IllegalArgumentException: there are no such PLACES");
        for (int no : NO_PLACES) {
            refuses("sum(" + no + ", 0, 1)", ILLEGAL, d -> d.sum(no, 0, 1));
            refuses("sum(0, " + no + ", 1)", ILLEGAL, d -> d.sum(0, no, 1));
            refuses("sum(0, " + no + ", 2)", ILLEGAL, d -> d.sum(0, no, 2));
        }
        for (int from = 0; from < 8; from++) {
            int first = from;
            // From here on one more than there are, and so many that from and many wrap around.
            for (int many : new int[] {9 - from, 100, Integer.MAX_VALUE - from, Integer.MAX_VALUE}) {
                refuses("sum(0, " + first + ", " + many + ")", ILLEGAL, d -> d.sum(0, first, many));
            }
        }
        refuses("sum(0, 8, 8)", ILLEGAL, d -> d.sum(0, 8, 8));
        refuses("sum(0, -1, 9)", ILLEGAL, d -> d.sum(0, -1, 9));
        refuses("sum(0, max, max)", ILLEGAL, d -> d.sum(0, Integer.MAX_VALUE, Integer.MAX_VALUE));
        refuses("sum(0, min, max)", ILLEGAL, d -> d.sum(0, Integer.MIN_VALUE, Integer.MAX_VALUE));
        refuses("sum(0, min, min)", ILLEGAL, d -> d.sum(0, Integer.MIN_VALUE, Integer.MIN_VALUE));
        sentence("Promise 7", "or many is below 1.");
        for (int many : new int[] {0, -1, -7, -8, -9, Integer.MIN_VALUE}) {
            refuses("sum(0, 0, " + many + ")", ILLEGAL, d -> d.sum(0, 0, many));
            refuses("sum(2, 7, " + many + ")", ILLEGAL, d -> d.sum(2, 7, many));
            refuses("sum(2, 8, " + many + ")", ILLEGAL, d -> d.sum(2, 8, many));
        }
    }

    // ---- Promise 8: kind

    private static void kindIs(double[] s, int due) {
        for (int place = 0; place < 8; place++) {
            BoundDesk desk = filled();
            put(desk, place, s);
            due("kind of " + told(s), desk.kind(place), due);
            unchangedBut("kind of " + told(s), desk, place);
            holds("kind of " + told(s), desk, place, s);
        }
    }

    private static void kind() {
        sentence("Promise 8", "The kind of a PLACE: 0 EMPTY");
        kindIs(EMPTY, 0);
        sentence("Promise 8", "1 one number");
        kindIs(one(0), 1);
        kindIs(one(3), 1);
        kindIs(one(-3), 1);
        BoundDesk desk = desk();
        due("from SIGN and 0 to 0", desk.set(0, 8, 0), true);
        due("kind of it", desk.kind(0), 1);
        sentence("Promise 8", "2 more, with both ends");
        kindIs(span(0, 0.5), 2);
        kindIs(span(-0.5, 0), 2);
        kindIs(span(-3, 3), 2);
        sentence("Promise 8", "3 without HIGH's");
        kindIs(span(3, INF), 3);
        kindIs(span(-3, INF), 3);
        sentence("Promise 8", "4 without LOW's");
        kindIs(span(-INF, -3), 4);
        kindIs(span(-INF, 3), 4);
        sentence("Promise 8", "5 without both");
        kindIs(all(), 5);
        sentence("Promise 8", "NONE: there is no such PLACE.");
        due("NONE", BoundDesk.NONE, -1);
        for (int no : NO_PLACES) {
            refuses("kind(" + no + ")", -1, d -> d.kind(no));
        }
    }

    // ---- Promises 9 and 10: low, high

    private static void lowAndHigh() {
        for (int place = 0; place < 8; place++) {
            int asked = place;
            for (int size = 0; size < 6; size++) {
                BoundDesk desk = desk();
                int below = size == 0 ? 0 : 8 + size;
                due("set", desk.set(asked, 8 + size, size), true);
                sentence("Promise 9", "LOW as a PATTERN.");
                due("low from " + (8 + size), ask(desk, d -> d.low(asked)), below);
                sentence("Promise 10", "HIGH as a PATTERN.");
                due("high to " + size, ask(desk, d -> d.high(asked)), size);
            }
            BoundDesk desk = desk();
            due("set", desk.set(asked, 14, 6), true);
            sentence("Promise 9", "LOW as a PATTERN. (INFINITE below 0)");
            due("low", ask(desk, d -> d.low(asked)), 14);
            sentence("Promise 10", "HIGH as a PATTERN. (INFINITE above 0)");
            due("high", ask(desk, d -> d.high(asked)), 6);
        }
        for (int place = 0; place < 8; place++) {
            int asked = place;
            BoundDesk desk = filled();
            put(desk, place, EMPTY);
            sentence("Promise 9", "NoSuchElementException: EMPTY");
            due("low(" + place + ")", ask(desk, d -> d.low(asked)), MISSING);
            sentence("Promise 10", "NoSuchElementException: likewise. (EMPTY)");
            due("high(" + place + ")", ask(desk, d -> d.high(asked)), MISSING);
            unchangedBut("low and high of EMPTY", desk, place);
            due("kind after it", desk.kind(place), 0);
        }
        for (int no : NO_PLACES) {
            sentence("Promise 9", "NoSuchElementException: .. or no such PLACE.");
            refuses("low(" + no + ")", MISSING, d -> d.low(no));
            sentence("Promise 10", "NoSuchElementException: likewise. (no such PLACE)");
            refuses("high(" + no + ")", MISSING, d -> d.high(no));
        }
    }

    // ---- Promise 11: middle

    private static void middleIs(double[] s, double due) {
        for (int place : new int[] {0, 7}) {
            BoundDesk desk = new BoundDesk();
            desk.format(formatE, formatM);
            put(desk, place, s);
            due("middle of " + told(s), ask(desk, d -> d.middle(place)), pattern(due));
            holds("middle changes nothing", desk, place, s);
        }
    }

    private static void middle() {
        desk(3, 2);
        sentence("Promise 11", "The number of the FORMAT that is nearest to the middle between LOW and HIGH");
        middleIs(one(0), 0);
        middleIs(one(14), 14);
        middleIs(one(-14), -14);
        middleIs(one(1 / 16.0), 1 / 16.0);
        middleIs(span(-14, 14), 0);
        middleIs(span(12, 14), 12);
        middleIs(span(10, 14), 12);
        middleIs(span(0, 14), 7);
        middleIs(span(-14, 0), -7);
        // 6.5 / 2 is 3.25, 6.375 / 2 is less and 6.75 / 2 more; 3 and 3.5 are the neighbours.
        middleIs(span(0.375, 6), 3);
        middleIs(span(0.75, 6), 3.5);
        middleIs(span(-6, -0.375), -3);
        middleIs(span(-6, -0.75), -3.5);
        sentence("Promise 11", "(of two the one whose m is even)");
        middleIs(span(0.5, 6), 3);
        middleIs(span(1.5, 6), 4);
        middleIs(span(-6, -0.5), -3);
        middleIs(span(-6, -1.5), -4);
        middleIs(span(0, 1 / 16.0), 0);
        middleIs(span(-1 / 16.0, 0), 0);
        middleIs(span(1 / 16.0, 2 / 16.0), 2 / 16.0);
        middleIs(span(-2 / 16.0, -1 / 16.0), -2 / 16.0);
        middleIs(span(3 / 16.0, 4 / 16.0), 4 / 16.0);
        middleIs(span(7, 8), 8);
        middleIs(span(-8, -7), -8);
        middleIs(span(8, 10), 8);
        middleIs(span(10, 12), 12);
        desk(4, 10);
        middleIs(span(1, number(7169)), 1);
        middleIs(span(number(7169), number(7170)), number(7170));
        middleIs(span(number(15358), number(15359)), number(15358));
        middleIs(span(-largest(), largest()), 0);
        middleIs(span(number(1023), number(1024)), number(1024));
        sentence("Promise 11", "NoSuchElementException: the kind is not 1 or 2");
        for (double[] s : new double[][] {EMPTY, span(0, INF), span(3, INF), span(-3, INF), span(-INF, 0), span(-INF, 3), all()}) {
            for (int place = 0; place < 8; place++) {
                int asked = place;
                BoundDesk desk = filled();
                put(desk, place, s);
                due("middle of " + told(s), ask(desk, d -> d.middle(asked)), MISSING);
                unchangedBut("middle of " + told(s), desk, place);
                holds("middle of " + told(s), desk, place, s);
            }
        }
        sentence("Promise 11", "NoSuchElementException: .. or no such PLACE.");
        for (int no : NO_PLACES) {
            refuses("middle(" + no + ")", MISSING, d -> d.middle(no));
        }
    }

    // ---- Promise 12: width

    private static void widthIs(double[] s, double due) {
        for (int place : new int[] {0, 7}) {
            BoundDesk desk = new BoundDesk();
            desk.format(formatE, formatM);
            put(desk, place, s);
            due("width of " + told(s), ask(desk, d -> d.width(place)), pattern(due));
            holds("width changes nothing", desk, place, s);
        }
    }

    private static void width() {
        desk(3, 2);
        sentence("Promise 12", "The least number of the FORMAT .. that is not below HIGH - LOW, as a PATTERN.");
        widthIs(one(0), 0);
        widthIs(one(14), 0);
        widthIs(one(-14), 0);
        widthIs(span(0, 14), 14);
        widthIs(span(-14, 0), 14);
        widthIs(span(-7, 7), 14);
        widthIs(span(12, 14), 2);
        widthIs(span(0, 1 / 16.0), 1 / 16.0);
        widthIs(span(-1 / 16.0, 0), 1 / 16.0);
        // From 1/16 to 14 is 13.9375, from -1/16 to 8 is 8.0625.
        widthIs(span(1 / 16.0, 14), 14);
        widthIs(span(-1 / 16.0, 8), 10);
        widthIs(span(-8, 1 / 16.0), 10);
        sentence("Promise 12", "INFINITE too");
        widthIs(span(-1 / 16.0, 14), INF);
        widthIs(span(-14, 1 / 16.0), INF);
        widthIs(span(-14, 14), INF);
        widthIs(span(0, INF), INF);
        widthIs(span(14, INF), INF);
        widthIs(span(-14, INF), INF);
        widthIs(span(-INF, 0), INF);
        widthIs(span(-INF, -14), INF);
        widthIs(all(), INF);
        desk(4, 10);
        widthIs(span(-number(1), largest()), INF);
        widthIs(span(number(1), largest()), largest());
        widthIs(span(-largest(), largest()), INF);
        widthIs(span(-number(1), number(1)), number(2));
        sentence("Promise 12", "NoSuchElementException: EMPTY");
        for (int place = 0; place < 8; place++) {
            int asked = place;
            BoundDesk desk = filled();
            put(desk, place, EMPTY);
            due("width of EMPTY", ask(desk, d -> d.width(asked)), MISSING);
            unchangedBut("width of EMPTY", desk, place);
        }
        sentence("Promise 12", "NoSuchElementException: .. or no such PLACE.");
        for (int no : NO_PLACES) {
            refuses("width(" + no + ")", MISSING, d -> d.width(no));
        }
    }

    // ---- Promise 13: compare

    /** Looks at one bit alone, from both sides: turned is the bit that compare(b, a) has for it. */
    private static void bit(int bit, int turned, double[] a, double[] b, boolean due) {
        BoundDesk desk = desk();
        put(desk, 0, a);
        put(desk, 7, b);
        String what = "bit " + bit + " of " + told(a) + " and " + told(b);
        due(what, (ask(desk, d -> d.compare(0, 7)) & bit) != 0, due);
        due(what + ", turned", (ask(desk, d -> d.compare(7, 0)) & turned) != 0, due);
        holds(what, desk, 0, a);
        holds(what, desk, 7, b);
    }

    private static void compare() {
        desk();
        sentence("Promise 13", "1 some x of a is less than some y of b");
        bit(1, 4, one(1), one(1), false);
        bit(1, 4, span(1, 2), one(1), false);
        bit(1, 4, one(1), span(1, 2), true);
        bit(1, 4, span(1, 2), span(1, 2), true);
        bit(1, 4, span(2, 3), span(1, 2), false);
        bit(1, 4, span(1, 2), span(2, 3), true);
        bit(1, 4, span(1.5, 3), span(1, 2), true);
        bit(1, 4, span(3, INF), span(-INF, 3), false);
        bit(1, 4, span(-INF, -3), span(-INF, -3), true);
        bit(1, 4, span(3, INF), span(3, INF), true);
        sentence("Promise 13", "2 some is equal");
        bit(2, 2, one(1), one(1), true);
        bit(2, 2, span(1, 2), span(2, 3), true);
        bit(2, 2, span(1, 1.5), span(2, 3), false);
        bit(2, 2, span(-3, 3), one(1), true);
        bit(2, 2, span(-INF, 1), span(1, INF), true);
        bit(2, 2, span(-INF, 1), span(1.5, INF), false);
        bit(2, 2, all(), one(-3), true);
        bit(2, 2, span(3, INF), span(1, INF), true);
        sentence("Promise 13", "4 some is greater");
        bit(4, 1, one(1), one(1), false);
        bit(4, 1, one(1), span(1, 2), false);
        bit(4, 1, span(1, 2), one(1), true);
        bit(4, 1, span(1, 2), span(2, 3), false);
        bit(4, 1, span(-INF, 3), span(3, INF), false);
        bit(4, 1, span(3, INF), span(3, INF), true);
        bit(4, 1, all(), all(), true);
        sentence("Promise 13", "8 all of a are in b");
        bit(8, 16, one(1), one(1), true);
        bit(8, 16, span(1, 2), span(1, 3), true);
        bit(8, 16, span(2, 3), span(1, 3), true);
        bit(8, 16, span(0.5, 3), span(1, 3), false);
        bit(8, 16, span(1, 3), span(1, 2), false);
        bit(8, 16, span(3, INF), span(1, INF), true);
        bit(8, 16, span(3, INF), span(3, 3), false);
        bit(8, 16, span(-INF, 1), span(-3, 1), false);
        bit(8, 16, all(), all(), true);
        bit(8, 16, span(-3, 3), all(), true);
        sentence("Promise 13", "16 all of b are in a");
        bit(16, 8, one(1), one(1), true);
        bit(16, 8, span(1, 3), span(1, 2), true);
        bit(16, 8, span(1, 3), span(2, 3), true);
        bit(16, 8, span(1, 2), span(1, 3), false);
        bit(16, 8, span(2, 3), span(1, 3), false);
        bit(16, 8, all(), span(3, INF), true);
        sentence("Promise 13", "32 both are the same.");
        bit(32, 32, one(1), one(1), true);
        bit(32, 32, one(0), one(0), true);
        bit(32, 32, span(1, 2), span(1, 2), true);
        bit(32, 32, span(1, 2), span(1, 3), false);
        bit(32, 32, span(1, 3), span(2, 3), false);
        bit(32, 32, all(), all(), true);
        bit(32, 32, all(), span(-3, INF), false);
        sentence("Promise 13", "As bits, of two PLACES that are not EMPTY (and nothing but these bits)");
        BoundDesk bits = filled();
        int[][] rows = {{0, 0, 63}, {1, 1, 58}, {1, 0, 1}, {0, 1, 4}, {0, 7, 1}, {7, 0, 4}, {5, 5, 63}, {1, 6, 15}, {6, 1, 23},
            {0, 3, 7}, {6, 7, 19}, {7, 6, 14}, {3, 4, 4}, {4, 3, 1}};
        for (int[] row : rows) {
            due("compare(" + row[0] + ", " + row[1] + ")", bits.compare(row[0], row[1]), row[2]);
        }
        unchangedBut("compare", bits);
        sentence("Promise 13", "0 if one is EMPTY;");
        for (int place = 0; place < 8; place++) {
            BoundDesk desk = filled();
            due("compare(2, " + place + ")", desk.compare(2, place), 0);
            due("compare(" + place + ", 2)", desk.compare(place, 2), 0);
            unchangedBut("compare with EMPTY", desk);
        }
        sentence("Promise 13", "NONE: there is no such PLACE.");
        for (int no : NO_PLACES) {
            refuses("compare(" + no + ", 0)", -1, d -> d.compare(no, 0));
            refuses("compare(0, " + no + ")", -1, d -> d.compare(0, no));
            refuses("compare(" + no + ", " + no + ")", -1, d -> d.compare(no, no));
            // Place 2 is EMPTY.
            refuses("compare(" + no + ", 2)", -1, d -> d.compare(no, 2));
            refuses("compare(2, " + no + ")", -1, d -> d.compare(2, no));
        }
    }

    // ---- Promise 14: has

    private static void has() {
        sentence("Promise 14", "Whether the number of a finite PATTERN is in a PLACE's SPAN;");
        double[][] spans = {one(0), one(3), one(-3), one(0.5), span(-0.5, 0.5), span(1, 2), span(-2, -1), span(-3, 3),
            span(3, INF), span(2, INF), span(-INF, -3), span(-INF, -2), span(-INF, 3), all()};
        for (double[] s : spans) {
            for (int place = 0; place < 8; place++) {
                BoundDesk desk = filled();
                put(desk, place, s);
                for (int pattern = 0; pattern < 16; pattern++) {
                    if (pattern % 8 < 6) {
                        double x = number(pattern % 8) * (pattern < 8 ? 1 : -1);
                        due(told(s) + " has " + pattern, desk.has(place, pattern), s[0] <= x && x <= s[1]);
                    }
                }
                unchangedBut("has", desk, place);
            }
        }
        sentence("Promise 14", "Whether the number of a finite PATTERN (INFINITE is not finite)");
        BoundDesk endless = desk();
        put(endless, 0, all());
        due("has INFINITE", endless.has(0, 6), false);
        due("has INFINITE below 0", endless.has(0, 14), false);
        sentence("Promise 14", "false, too, if there are none such. (no such PATTERN)");
        for (int no : new int[] {7, 15, 16, 17, 22, 24, 32, -1, -8, -16, 1 << 16, Integer.MAX_VALUE, Integer.MIN_VALUE}) {
            due("has " + no, endless.has(0, no), false);
            refuses("has " + no, 0, d -> d.has(5, no) ? 1 : 0);
        }
        sentence("Promise 14", "false, too, if there are none such. (EMPTY)");
        BoundDesk empty = desk();
        for (int pattern = -1; pattern <= 16; pattern++) {
            due("EMPTY has " + pattern, empty.has(0, pattern), false);
        }
        sentence("Promise 14", "false, too, if there are none such. (no such PLACE)");
        for (int no : NO_PLACES) {
            refuses("has(" + no + ", 0)", 0, d -> d.has(no, 0) ? 1 : 0);
            refuses("has(" + no + ", 7)", 0, d -> d.has(no, 7) ? 1 : 0);
        }
    }

    public static void main(String[] args) {
        manyCalls();
        formats();
        bitsOfPatterns();
        numbersOfPatterns();
        infinitePatterns();
        signs();
        spans();
        spanOf();
        places();
        operationsOfTwo();
        operationsOfOne();
        newObject();
        format();
        set();
        clear();
        does();
        part();
        sum();
        kind();
        lowAndHigh();
        middle();
        width();
        compare();
        has();
        System.out.println(wrong == 0 ? "all answers are as due" : wrong + " answers are not as due");
        if (wrong != 0) {
            System.exit(1);
        }
    }
}

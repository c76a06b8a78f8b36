import java.util.NoSuchElementException;

/**
 * Each promise by hand-reckoned answers. Most runs use the format E 2, M 1, whose patterns are
 * 0: 0, 1: 0.5, 2: 1, 3: 1.5, 4: 2, 5: 3, 6: infinite, and with 8 added the same below 0.
 */
public final class PromisesTest {
    private static final int EMPTY = -100;
    private static final int ILLEGAL = -101;
    private static final int MISSING = -102;
    private static final int INF = 6;
    private static final int BELOW = 8;
    private static final int PLUS = 0, MINUS = 1, TIMES = 2, OVER = 3, EITHER = 4, BOTH = 5;
    private static final int LESSER = 6, GREATER = 7, NEGATIVE = 8, SQUARE = 9, ROOT = 10, SIZE = 11;
    private static int wrong = 0;

    private static void due(String what, long got, long want) {
        if (got != want) {
            wrong++;
            System.out.println(what + " answered " + got + ", due is " + want);
        }
    }

    private static void due(String what, boolean got, boolean want) {
        due(what, got ? 1 : 0, want ? 1 : 0);
    }

    private static BoundDesk small() {
        BoundDesk desk = new BoundDesk();
        due("format(2, 1)", desk.format(2, 1), true);
        return desk;
    }

    private static void put(BoundDesk desk, int place, int low, int high) {
        if (low == EMPTY) {
            due("clear(" + place + ")", desk.clear(place), true);
        } else {
            due("set(" + place + ", " + low + ", " + high + ")", desk.set(place, low, high), true);
        }
    }

    private static int does(BoundDesk desk, int operation, int to, int a, int b) {
        try {
            return desk.does(operation, to, a, b);
        } catch (IllegalArgumentException e) {
            return ILLEGAL;
        }
    }

    private static int part(BoundDesk desk, int to, int a, int b) {
        try {
            return desk.part(to, a, b);
        } catch (IllegalArgumentException e) {
            return ILLEGAL;
        }
    }

    private static int sum(BoundDesk desk, int to, int from, int many) {
        try {
            return desk.sum(to, from, many);
        } catch (IllegalArgumentException e) {
            return ILLEGAL;
        }
    }

    private static int low(BoundDesk desk, int place) {
        try {
            return desk.low(place);
        } catch (NoSuchElementException e) {
            return MISSING;
        }
    }

    private static int high(BoundDesk desk, int place) {
        try {
            return desk.high(place);
        } catch (NoSuchElementException e) {
            return MISSING;
        }
    }

    private static int middle(BoundDesk desk, int place) {
        try {
            return desk.middle(place);
        } catch (NoSuchElementException e) {
            return MISSING;
        }
    }

    private static int width(BoundDesk desk, int place) {
        try {
            return desk.width(place);
        } catch (NoSuchElementException e) {
            return MISSING;
        }
    }

    private static void holds(String what, BoundDesk desk, int place, int low, int high) {
        due(what + ", low(" + place + ")", low(desk, place), low == EMPTY ? MISSING : low);
        due(what + ", high(" + place + ")", high(desk, place), low == EMPTY ? MISSING : high);
    }

    private static void newObject() {
        BoundDesk desk = new BoundDesk();
        for (int place = 0; place < 8; place++) {
            due("1: kind", desk.kind(place), 0);
        }
        due("1: infinite of E 4, M 10", desk.set(0, 31744, 15360), true);
        due("1: above infinite", desk.set(0, 0, 15361), false);
        due("1: no pattern of 15 bits", desk.set(0, 32768, 0), false);
        due("1: NONE", BoundDesk.NONE, -1);
    }

    private static void format() {
        BoundDesk desk = new BoundDesk();
        int[][] none = {{1, 1}, {5, 1}, {2, 0}, {4, 11}, {-1, 5}, {3, -1}, {0, 0},
            {Integer.MAX_VALUE, 1}, {Integer.MIN_VALUE, 1}, {2, Integer.MAX_VALUE}, {2, Integer.MIN_VALUE}, {34, 1}, {2, 33}};
        put(desk, 3, 7168, 8192);
        for (int[] f : none) {
            due("2: format(" + f[0] + ", " + f[1] + ")", desk.format(f[0], f[1]), false);
            holds("2: after a refused format", desk, 3, 7168, 8192);
        }
        for (int e = 2; e <= 4; e++) {
            for (int m = 1; m <= 10; m++) {
                // A new one, as nothing is promised after 512 calls.
                desk = new BoundDesk();
                for (int place = 0; place < 8; place++) {
                    put(desk, place, 0, 1);
                }
                due("2: format", desk.format(e, m), true);
                for (int place = 0; place < 8; place++) {
                    due("2: kind after format", desk.kind(place), 0);
                }
                int infinite = ((1 << e) - 1) << m;
                due("2: infinite", desk.set(0, infinite | 1 << (e + m), infinite), true);
                due("2: too large", desk.set(0, 0, infinite + 1), false);
            }
        }
        put(desk, 2, 0, 1);
        due("2: the same format again", desk.format(4, 10), true);
        due("2: it empties too", desk.kind(2), 0);
    }

    private static void set() {
        BoundDesk desk = small();
        put(desk, 0, 9, 5);
        int[][] none = {{0, 7, 7}, {0, 0, 7}, {0, 15, 0}, {0, -1, 0}, {0, 0, -1}, {0, 0, 16}, {0, 16, 16},
            {0, INF, INF}, {0, 14, 14}, {0, 0, 14}, {0, INF, 0}, {0, INF, 14}, {0, 2, 1}, {0, 1, 9}, {0, 9, 10}, {0, 1, 8},
            {0, Integer.MIN_VALUE, 0}, {0, 0, Integer.MAX_VALUE}, {8, 0, 0}, {-1, 0, 0},
            {Integer.MAX_VALUE, 0, 0}, {Integer.MIN_VALUE, 0, 0}};
        for (int[] s : none) {
            due("3: set(" + s[0] + ", " + s[1] + ", " + s[2] + ")", desk.set(s[0], s[1], s[2]), false);
            holds("3: after a refused set", desk, 0, 9, 5);
        }
        put(desk, 7, 10, 9);
        holds("3: below 0", desk, 7, 10, 9);
        put(desk, 7, 8, 8);
        holds("3: 0 with SIGN", desk, 7, 0, 0);
        put(desk, 7, 0, 8);
        holds("3: 0 and 0 with SIGN", desk, 7, 0, 0);
        put(desk, 7, 14, INF);
        holds("3: without ends", desk, 7, 14, INF);
        put(desk, 7, 5, INF);
        holds("3: without HIGH's", desk, 7, 5, INF);
        put(desk, 7, 14, 13);
        holds("3: without LOW's", desk, 7, 14, 13);
    }

    private static void clear() {
        BoundDesk desk = small();
        put(desk, 0, 1, 2);
        put(desk, 7, 1, 2);
        for (int place : new int[] {-1, 8, Integer.MAX_VALUE, Integer.MIN_VALUE}) {
            due("4: clear(" + place + ")", desk.clear(place), false);
        }
        due("4: clear(7)", desk.clear(7), true);
        due("4: kind(7)", desk.kind(7), 0);
        due("4: kind(0)", desk.kind(0), 2);
        due("4: clear(7) again", desk.clear(7), true);
        due("4: clear(0)", desk.clear(0), true);
        due("4: kind(0) at last", desk.kind(0), 0);
    }

    private static void gives(int operation, int[] a, int[] b, int low, int high, int kind) {
        String what = "5: operation " + operation + " of " + a[0] + ".." + a[1] + " and " + b[0] + ".." + b[1];
        // The place that is written may be one of those that are asked.
        for (int to : new int[] {0, 1, 2}) {
            BoundDesk desk = small();
            put(desk, 0, a[0], a[1]);
            put(desk, 1, b[0], b[1]);
            put(desk, 2, 1, 2);
            due(what, does(desk, operation, to, 0, 1), kind);
            holds(what, desk, to, low, high);
            due(what + ", kind", desk.kind(to), kind);
        }
    }

    private static int[] span(int low, int high) {
        return new int[] {low, high};
    }

    private static final int[] NO = {EMPTY, EMPTY};
    private static final int[] ALL = {14, INF};

    private static void sumsAndProducts() {
        gives(PLUS, span(1, 2), span(3, 4), 4, 5, 2);
        gives(PLUS, span(4, 4), span(1, 1), 4, 5, 2);
        gives(PLUS, span(5, 5), span(5, 5), 5, INF, 3);
        gives(PLUS, span(13, 13), span(9, 9), 14, 13, 4);
        gives(PLUS, span(14, 0), span(0, INF), 14, INF, 5);
        gives(PLUS, span(9, 9), span(1, 1), 0, 0, 1);
        gives(PLUS, NO, span(0, 0), EMPTY, EMPTY, 0);
        gives(PLUS, span(0, 0), NO, EMPTY, EMPTY, 0);
        gives(MINUS, span(1, 2), span(3, 4), 11, 9, 2);
        gives(MINUS, span(0, INF), span(1, INF), 14, INF, 5);
        gives(MINUS, span(0, 0), span(1, INF), 14, 9, 4);
        gives(MINUS, NO, NO, EMPTY, EMPTY, 0);
        gives(TIMES, span(1, 5), span(2, 3), 1, INF, 3);
        gives(TIMES, span(1, 1), span(1, 1), 0, 1, 2);
        gives(TIMES, span(9, 9), span(1, 1), 9, 0, 2);
        gives(TIMES, span(10, 2), span(12, 4), 12, 4, 2);
        gives(TIMES, span(0, 0), ALL, 0, 0, 1);
        gives(TIMES, span(0, INF), span(8, 8), 0, 0, 1);
        gives(TIMES, span(0, 1), span(0, INF), 0, INF, 3);
        gives(TIMES, span(9, 0), span(0, INF), 14, 0, 4);
        gives(TIMES, span(14, 9), span(14, 9), 0, INF, 3);
        gives(TIMES, span(5, 5), span(5, 5), 5, INF, 3);
        gives(TIMES, NO, span(0, 0), EMPTY, EMPTY, 0);
    }

    private static void quotients() {
        gives(OVER, span(2, 3), span(1, 5), 0, 5, 2);
        gives(OVER, span(2, 2), span(3, 3), 1, 2, 2);
        gives(OVER, span(10, 10), span(3, 3), 10, 9, 2);
        gives(OVER, span(2, 2), span(0, INF), 0, INF, 3);
        gives(OVER, span(2, 2), span(14, 0), 14, 0, 4);
        gives(OVER, span(2, 2), span(9, 1), 14, INF, 5);
        gives(OVER, span(0, 0), span(9, 1), 0, 0, 1);
        gives(OVER, span(0, 0), span(0, 0), EMPTY, EMPTY, 0);
        gives(OVER, ALL, span(8, 8), EMPTY, EMPTY, 0);
        gives(OVER, span(2, INF), span(2, INF), 0, INF, 3);
        gives(OVER, span(14, 10), span(2, INF), 14, 0, 4);
        gives(OVER, span(5, 5), span(1, 1), 5, INF, 3);
        gives(OVER, span(0, 4), span(0, 2), 0, INF, 3);
        gives(OVER, span(10, 4), span(2, 4), 10, 4, 2);
        gives(OVER, NO, span(2, 2), EMPTY, EMPTY, 0);
        gives(OVER, span(2, 2), NO, EMPTY, EMPTY, 0);
    }

    private static void choices() {
        gives(EITHER, span(10, 9), span(4, INF), 10, INF, 3);
        gives(EITHER, NO, span(1, 2), 1, 2, 2);
        gives(EITHER, span(1, 2), NO, 1, 2, 2);
        gives(EITHER, NO, NO, EMPTY, EMPTY, 0);
        gives(BOTH, span(1, 4), span(3, INF), 3, 4, 2);
        gives(BOTH, span(1, 3), span(3, 4), 3, 3, 1);
        gives(BOTH, span(1, 2), span(3, 4), EMPTY, EMPTY, 0);
        gives(BOTH, ALL, NO, EMPTY, EMPTY, 0);
        gives(LESSER, span(1, 5), span(2, 4), 1, 4, 2);
        gives(LESSER, span(0, INF), span(14, 4), 14, 4, 4);
        gives(LESSER, span(0, INF), NO, EMPTY, EMPTY, 0);
        gives(GREATER, span(1, 5), span(2, 4), 2, 5, 2);
        gives(GREATER, span(0, INF), span(14, 4), 0, INF, 3);
        gives(GREATER, NO, ALL, EMPTY, EMPTY, 0);
    }

    private static void ofOneAlone() {
        gives(NEGATIVE, span(1, INF), NO, 14, 9, 4);
        gives(NEGATIVE, span(0, 0), NO, 0, 0, 1);
        gives(NEGATIVE, NO, ALL, EMPTY, EMPTY, 0);
        gives(SQUARE, span(11, 2), NO, 0, 5, 2);
        gives(SQUARE, span(11, 10), NO, 2, 5, 2);
        gives(SQUARE, span(1, 1), NO, 0, 1, 2);
        gives(SQUARE, span(14, 10), NO, 2, INF, 3);
        gives(SQUARE, span(4, 4), NO, 5, INF, 3);
        gives(SQUARE, NO, ALL, EMPTY, EMPTY, 0);
        gives(ROOT, span(2, 5), NO, 2, 4, 2);
        gives(ROOT, span(1, 1), NO, 1, 2, 2);
        gives(ROOT, span(13, 2), NO, 0, 2, 2);
        gives(ROOT, span(14, 0), NO, 0, 0, 1);
        gives(ROOT, span(14, 9), NO, EMPTY, EMPTY, 0);
        gives(ROOT, ALL, NO, 0, INF, 3);
        gives(ROOT, NO, ALL, EMPTY, EMPTY, 0);
        gives(SIZE, span(13, 2), NO, 0, 5, 2);
        gives(SIZE, span(13, 10), NO, 2, 5, 2);
        gives(SIZE, span(14, 10), NO, 2, INF, 3);
        gives(SIZE, span(2, 3), NO, 2, 3, 2);
        gives(SIZE, NO, ALL, EMPTY, EMPTY, 0);
    }

    private static void doesRefuses() {
        BoundDesk desk = small();
        put(desk, 0, 1, 2);
        int[] noPlaces = {-1, 8, Integer.MAX_VALUE, Integer.MIN_VALUE};
        for (int operation : new int[] {-1, 12, Integer.MAX_VALUE, Integer.MIN_VALUE}) {
            due("5: operation " + operation, does(desk, operation, 0, 0, 0), ILLEGAL);
        }
        for (int operation = 0; operation < 12; operation++) {
            for (int no : noPlaces) {
                String what = "5: operation " + operation + " with " + no;
                due(what + " as to", does(desk, operation, no, 0, 0), ILLEGAL);
                due(what + " as a", does(desk, operation, 0, no, 0), ILLEGAL);
                holds(what, desk, 0, 1, 2);
                due(what + " as b", does(desk, operation, 3, 0, no), operation < 8 ? ILLEGAL : desk.kind(3));
                due(what + " as b, kind", desk.kind(3), operation < 8 ? 0 : 2);
                put(desk, 3, EMPTY, EMPTY);
            }
            desk = small();
            put(desk, 0, 1, 2);
        }
    }

    private static void parts(int[] a, int[] b, int[] above, int[] below, int answer) {
        String what = "6: part of " + a[0] + ".." + a[1] + " and " + b[0] + ".." + b[1];
        // The places asked may be those that are written.
        for (int to : new int[] {2, 1, 3, 5, 6, 0}) {
            BoundDesk desk = small();
            put(desk, 2, a[0], a[1]);
            put(desk, 3, b[0], b[1]);
            due(what, part(desk, to, 2, 3), answer);
            holds(what, desk, to, above[0], above[1]);
            holds(what, desk, to + 1, below[0], below[1]);
        }
    }

    private static void part() {
        parts(span(2, 2), span(9, 1), span(4, INF), span(14, 12), 3 + 8 * 4);
        parts(span(2, 3), span(2, 4), span(1, 3), NO, 2);
        parts(span(2, 3), span(12, 10), NO, span(11, 9), 16);
        parts(span(2, 2), span(0, 4), span(1, INF), NO, 3);
        parts(span(2, 2), span(12, 0), NO, span(14, 9), 32);
        parts(span(2, 2), span(0, 0), NO, NO, 0);
        parts(span(0, 0), ALL, span(0, 0), span(0, 0), 9);
        parts(span(10, 2), ALL, ALL, ALL, 45);
        parts(span(2, INF), ALL, span(0, INF), span(14, 0), 35);
        parts(NO, ALL, NO, NO, 0);
        parts(ALL, NO, NO, NO, 0);
        BoundDesk desk = small();
        put(desk, 7, 1, 2);
        put(desk, 0, 1, 2);
        for (int no : new int[] {-1, 8, Integer.MAX_VALUE, Integer.MIN_VALUE}) {
            due("6: to " + no, part(desk, no, 0, 0), ILLEGAL);
            due("6: a " + no, part(desk, 0, no, 0), ILLEGAL);
            due("6: b " + no, part(desk, 0, 0, no), ILLEGAL);
        }
        due("6: to 7", part(desk, 7, 0, 0), ILLEGAL);
        holds("6: refused", desk, 7, 1, 2);
        holds("6: refused", desk, 0, 1, 2);
        due("6: kind(1)", desk.kind(1), 0);
    }

    private static void sum() {
        BoundDesk desk = small();
        for (int place = 0; place < 8; place++) {
            put(desk, place, 9, 1);
        }
        put(desk, 0, 4, 4);
        put(desk, 1, 1, 1);
        put(desk, 2, 1, 1);
        // 2 + 0.5 + 0.5 is 3; rounded at each step it would be 2 .. infinite.
        due("7: sum(7, 0, 3)", sum(desk, 7, 0, 3), 1);
        holds("7: rounded once", desk, 7, 5, 5);
        put(desk, 3, 13, 13);
        put(desk, 1, 5, 5);
        // 2 + 3 + 0.5 - 3 passes beyond the largest number on its way.
        due("7: sum(1, 0, 4)", sum(desk, 1, 0, 4), 2);
        holds("7: through infinite", desk, 1, 4, 5);
        due("7: sum(0, 0, 1)", sum(desk, 0, 0, 1), 1);
        holds("7: of one", desk, 0, 4, 4);
        put(desk, 5, 14, 0);
        due("7: without LOW's", sum(desk, 6, 4, 2), 4);
        holds("7: without LOW's", desk, 6, 14, 1);
        put(desk, 5, 14, 0);
        put(desk, 6, 0, INF);
        due("7: without both", sum(desk, 6, 5, 2), 5);
        put(desk, 5, EMPTY, EMPTY);
        due("7: with an EMPTY one", sum(desk, 3, 4, 4), 0);
        due("7: kind", desk.kind(3), 0);
        desk = small();
        for (int place = 0; place < 8; place++) {
            put(desk, place, 9, 1);
        }
        due("7: of all", sum(desk, 7, 0, 8), 5);
        put(desk, 7, 1, 2);
        int[][] none = {{8, 0, 1}, {-1, 0, 1}, {0, 8, 1}, {0, -1, 1}, {0, -1, 2}, {0, 0, 0}, {0, 0, -1}, {0, 0, 9}, {0, 7, 2},
            {0, 1, 8}, {0, 0, Integer.MAX_VALUE}, {0, 7, Integer.MAX_VALUE}, {0, 0, Integer.MIN_VALUE},
            {0, Integer.MAX_VALUE, 1}, {0, Integer.MIN_VALUE, 1}, {0, Integer.MAX_VALUE, Integer.MAX_VALUE},
            {Integer.MAX_VALUE, 0, 1}, {0, 8, 0}};
        for (int[] s : none) {
            due("7: sum(" + s[0] + ", " + s[1] + ", " + s[2] + ")", sum(desk, s[0], s[1], s[2]), ILLEGAL);
            holds("7: refused", desk, 0, 9, 1);
        }
        due("7: of the last", sum(desk, 0, 7, 1), 2);
        holds("7: of the last", desk, 0, 1, 2);
    }

    private static void kindsAndEnds() {
        BoundDesk desk = small();
        int[][] spans = {{1, 1, 1}, {8, 0, 1}, {9, 1, 2}, {13, INF, 3}, {14, 13, 4}, {14, INF, 5}};
        for (int[] s : spans) {
            put(desk, 7, s[0], s[1]);
            due("8: kind of " + s[0] + ".." + s[1], desk.kind(7), s[2]);
        }
        due("8: EMPTY", desk.kind(0), 0);
        for (int no : new int[] {-1, 8, Integer.MAX_VALUE, Integer.MIN_VALUE}) {
            due("8: kind(" + no + ")", desk.kind(no), BoundDesk.NONE);
            due("9: low(" + no + ")", low(desk, no), MISSING);
            due("10: high(" + no + ")", high(desk, no), MISSING);
            due("11: middle(" + no + ")", middle(desk, no), MISSING);
            due("12: width(" + no + ")", width(desk, no), MISSING);
        }
        due("9: EMPTY", low(desk, 0), MISSING);
        due("10: EMPTY", high(desk, 0), MISSING);
        due("11: EMPTY", middle(desk, 0), MISSING);
        due("12: EMPTY", width(desk, 0), MISSING);
        holds("9, 10: without both", desk, 7, 14, INF);
        for (int finite = 0; finite < 6; finite++) {
            put(desk, 6, finite, finite);
            holds("9, 10: above 0", desk, 6, finite, finite);
            put(desk, 6, BELOW + finite, BELOW + finite);
            int told = finite == 0 ? 0 : BELOW + finite;
            holds("9, 10: below 0", desk, 6, told, told);
        }
    }

    private static void middleAndWidth() {
        BoundDesk desk = small();
        // low, high, middle, width
        int[][] spans = {{1, 5, 4, 5}, {0, 1, 0, 1}, {9, 0, 0, 1}, {9, 1, 0, 2}, {1, 2, 2, 1}, {2, 3, 2, 1}, {10, 9, 10, 1},
            {11, 10, 10, 1}, {4, 5, 4, 2}, {3, 5, 4, 3}, {13, 5, 0, INF}, {0, 5, 3, 5}, {9, 5, 2, INF}, {12, 1, 10, 5},
            {5, 5, 5, 0}, {8, 8, 0, 0}, {13, 12, 12, 2}, {13, 9, 12, 5}, {12, 4, 0, INF}};
        for (int[] s : spans) {
            put(desk, 7, s[0], s[1]);
            due("11: middle of " + s[0] + ".." + s[1], middle(desk, 7), s[2]);
            due("12: width of " + s[0] + ".." + s[1], width(desk, 7), s[3]);
        }
        int[][] endless = {{13, INF}, {14, 13}, {14, INF}, {0, INF}};
        for (int[] s : endless) {
            put(desk, 7, s[0], s[1]);
            due("11: middle of " + s[0] + ".." + s[1], middle(desk, 7), MISSING);
            due("12: width of " + s[0] + ".." + s[1], width(desk, 7), INF);
        }
    }

    private static void compares(int[] a, int[] b, int bits) {
        BoundDesk desk = small();
        put(desk, 0, a[0], a[1]);
        put(desk, 7, b[0], b[1]);
        due("13: compare of " + a[0] + ".." + a[1] + " and " + b[0] + ".." + b[1], desk.compare(0, 7), bits);
    }

    private static void compare() {
        compares(span(1, 2), span(3, 4), 1);
        compares(span(3, 4), span(1, 2), 4);
        compares(span(1, 2), span(2, 3), 1 + 2);
        compares(span(2, 3), span(1, 2), 2 + 4);
        compares(span(1, 3), span(2, 4), 7);
        compares(span(2, 3), span(1, 4), 15);
        compares(span(1, 4), span(2, 3), 23);
        compares(span(1, 4), span(1, 4), 63);
        compares(span(2, 2), span(2, 2), 58);
        compares(span(8, 8), span(0, 0), 58);
        compares(span(2, 2), span(2, 3), 1 + 2 + 8);
        compares(span(2, 3), span(3, 3), 1 + 2 + 16);
        compares(ALL, ALL, 63);
        compares(ALL, span(0, 0), 23);
        compares(span(5, INF), span(4, INF), 15);
        compares(span(5, INF), span(14, 13), 4);
        compares(span(14, 13), span(14, 12), 15);
        compares(NO, ALL, 0);
        compares(ALL, NO, 0);
        compares(NO, NO, 0);
        BoundDesk desk = small();
        put(desk, 1, 1, 2);
        for (int no : new int[] {-1, 8, Integer.MAX_VALUE, Integer.MIN_VALUE}) {
            for (int place : new int[] {0, 1, no}) {
                due("13: compare(" + no + ", " + place + ")", desk.compare(no, place), BoundDesk.NONE);
                due("13: compare(" + place + ", " + no + ")", desk.compare(place, no), BoundDesk.NONE);
            }
        }
    }

    private static void has() {
        BoundDesk desk = small();
        put(desk, 0, 9, 4);
        int[] in = {9, 8, 0, 1, 2, 3, 4};
        int[] out = {10, 13, 14, 15, 5, 6, 7, -1, 16, 17, Integer.MAX_VALUE, Integer.MIN_VALUE};
        for (int pattern : in) {
            due("14: has(0, " + pattern + ")", desk.has(0, pattern), true);
        }
        for (int pattern : out) {
            due("14: has(0, " + pattern + ")", desk.has(0, pattern), false);
        }
        put(desk, 7, 14, INF);
        for (int pattern = -1; pattern < 17; pattern++) {
            boolean finite = pattern >= 0 && pattern < 16 && (pattern & 7) < INF;
            due("14: has(7, " + pattern + ")", desk.has(7, pattern), finite);
            due("14: EMPTY has " + pattern, desk.has(1, pattern), false);
            due("14: has(8, " + pattern + ")", desk.has(8, pattern), false);
            due("14: has(-1, " + pattern + ")", desk.has(-1, pattern), false);
        }
        due("14: no such PLACE", desk.has(Integer.MAX_VALUE, 0) || desk.has(Integer.MIN_VALUE, 0), false);
    }

    /** README.md's example, line by line; what changes here changes there. */
    private static void readme() {
        BoundDesk desk = new BoundDesk();
        due("README: set(0, 7168, 8192)", desk.set(0, 7168, 8192), true);
        due("README: set(1, 8704, 8704)", desk.set(1, 8704, 8704), true);
        due("README: does(3, 2, 0, 1)", does(desk, OVER, 2, 0, 1), 2);
        holds("README: 1/3 to 2/3", desk, 2, 5461, 6486);
        due("README: has(2, 6144)", desk.has(2, 6144), true);
        due("README: set(3, 23552, 7168)", desk.set(3, 23552, 7168), true);
        due("README: part(4, 1, 3)", part(desk, 4, 1, 3), 35);
        holds("README: 3 and more", desk, 4, 8704, 15360);
        holds("README: -3 and less", desk, 5, 31744, 25088);
        due("README: sum(6, 0, 2)", sum(desk, 6, 0, 2), 2);
        holds("README: 4 to 5", desk, 6, 9216, 9472);
        due("README: middle(6)", middle(desk, 6), 9344);
        due("README: width(6)", width(desk, 6), 7168);
        due("README: compare(1, 6)", desk.compare(1, 6), 1);
    }

    public static void main(String[] args) {
        readme();
        newObject();
        format();
        set();
        clear();
        sumsAndProducts();
        quotients();
        choices();
        ofOneAlone();
        doesRefuses();
        part();
        sum();
        kindsAndEnds();
        middleAndWidth();
        compare();
        has();
        System.out.println(wrong == 0 ? "all answers are as due" : wrong + " answers are not as due");
        if (wrong != 0) {
            System.exit(1);
        }
    }
}

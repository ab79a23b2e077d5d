/** Promises 29 to 38: body, act, trace, keep, row, put, element, shift, taken, count. */
public final class ShelvesTest {
    private static final int GOES = 0, FINDS = 1, SETS = 2, TELLS = 3;
    private static final int FAR = Integer.MAX_VALUE, FAR_BELOW = Integer.MIN_VALUE;

    public static void main(String[] args) {
        body();
        eachActOfEachKind();
        actsThatWrap();
        traces();
        noSuchAct();
        keepAndTaken();
        row();
        lowestBits();
        putAndElementRefuse();
        shift();
        shiftRefuses();
        count();
        Due.close();
    }

    private static void body() {
        BackHouse x = new BackHouse();
        for (int number = 0; number < 50; number++) {
            Due.due("body " + number, x.body(number % 8), number);
        }
        Due.due("a body too much", x.body(0), BackHouse.FULL);
        Due.due("a bad one too much", x.body(8), BackHouse.BAD);
        Due.due("body(-1)", x.body(-1), BackHouse.BAD);
        Due.due("body(MAX)", x.body(FAR), BackHouse.BAD);
        Due.due("count(3)", x.count(3), 50);
        Due.due("the number counts", x.act(49, GOES, 1), 1 + 49 + 3);
    }

    /** Worked out by hand for bodies that have their kind's number, with x 6. */
    private static void eachActOfEachKind() {
        int[][] want = {
            {6, 12, 6, 12 - 1},
            {10, 20, 7, 20 - 0},
            {8, -16, 4, -16 - 3},
            {9, -20, 15, -20 - 6},
            {13, 26, 2, (26 - 5) ^ 5},
            {11, -24, 9 - 7, -24 - (12 - 7) + 1},
            {24, 48, 0, 48 - 7},
            {25, 50 + 5, 1, 55 - 6}};
        BackHouse x = new BackHouse();
        for (int kind = 0; kind < 8; kind++) {
            x.body(kind);
            for (int act = GOES; act <= TELLS; act++) {
                Due.due("act(" + kind + ", " + act + ", 6)", x.act(kind, act, 6), want[kind][act]);
            }
        }
    }

    private static void actsThatWrap() {
        BackHouse x = new BackHouse();
        x.body(0);
        x.body(3);
        Due.due("goes(MAX) of 1", x.act(1, GOES, FAR), FAR_BELOW);
        Due.due("finds(MAX) of 0", x.act(0, FINDS, FAR), -2);
        Due.due("finds(MAX) of 1", x.act(1, FINDS, FAR), -2);
        Due.due("sets(MIN) of 1", x.act(1, SETS, FAR_BELOW), (FAR_BELOW + 1) * 3);
    }

    private static void traceIs(BackHouse x, String of, int... bodies) {
        for (int i = 0; i < bodies.length; i++) {
            Due.due(of + ": trace(" + i + ")", x.trace(i), bodies[i]);
        }
        Due.due(of + ": trace behind", x.trace(bodies.length), BackHouse.BAD);
        Due.due(of + ": trace(-1)", x.trace(-1), BackHouse.BAD);
        Due.due(of + ": trace(24)", x.trace(24), BackHouse.BAD);
        Due.due(of + ": trace(MAX)", x.trace(FAR), BackHouse.BAD);
        Due.due(of + ": count(4)", x.count(4), bodies.length);
    }

    private static void traces() {
        BackHouse x = new BackHouse();
        traceIs(x, "before");
        int[][][] want = {
            {{1}, {10, 1}, {11}, {2, 10, 1, 11}},
            {{20, 1}, {10, 20, 1}, {11}, {2, 10, 20, 1, 11}},
            {{1}, {30, 10, 1}, {11}, {2, 30, 10, 1, 11}},
            {{1}, {41, 30, 10, 1}, {40, 11}, {2, 41, 30, 10, 1, 40, 11}},
            {{20, 1}, {10, 20, 1}, {11}, {50, 2, 10, 20, 1, 11}},
            {{1}, {41, 30, 10, 1}, {60, 40, 11, 1}, {61, 2, 41, 30, 10, 1, 60, 40, 11, 1}},
            {{70, 1}, {10, 70, 1}, {11}, {2, 10, 70, 1, 11}},
            {{81, 70, 1}, {80, 10, 81, 70, 1, 11}, {11}, {2, 80, 10, 81, 70, 1, 11, 11}}};
        for (int kind = 0; kind < 8; kind++) {
            x.body(kind);
            for (int act = GOES; act <= TELLS; act++) {
                x.act(kind, act, 6);
                traceIs(x, "act(" + kind + ", " + act + ", 6)", want[kind][act]);
            }
        }
    }

    private static void noSuchAct() {
        BackHouse x = new BackHouse();
        x.body(7);
        int[][] none = {{1, 0}, {-1, 0}, {FAR, 0}, {FAR_BELOW, 0}, {0, 4}, {0, -1}, {0, FAR}};
        for (int[] pair : none) {
            x.act(0, TELLS, 1);
            Due.due("act(" + pair[0] + ", " + pair[1] + ", 1)", x.act(pair[0], pair[1], 1), 0);
            traceIs(x, "then");
        }
    }

    private static void keepAndTaken() {
        boolean[][] under = {{true, false, false, false, false, false, false, false},
            {true, true, false, false, false, false, false, false}, {true, false, true, false, false, false, false, false},
            {true, false, true, true, false, false, false, false}, {true, true, false, false, true, false, false, false},
            {true, false, true, true, false, true, false, false}, {true, false, false, false, false, false, true, false},
            {true, false, false, false, false, false, true, true}};
        BackHouse x = new BackHouse();
        for (int kind = 0; kind < 8; kind++) {
            x.body(kind);
            Due.due("keep(5, " + kind + ")", x.keep(5, kind), 1);
            for (int k = 0; k < 8; k++) {
                Due.due(kind + " taken for " + k, x.taken(5, k), under[kind][k] ? kind : -12);
            }
        }
        Due.due("keep(5, 8)", x.keep(5, 8), BackHouse.BAD);
        Due.due("keep(5, -2)", x.keep(5, -2), BackHouse.BAD);
        Due.due("keep(6, 0)", x.keep(6, 0), BackHouse.BAD);
        Due.due("keep(-1, 0)", x.keep(-1, 0), BackHouse.BAD);
        Due.due("keep(6, -1)", x.keep(6, -1), BackHouse.BAD);
        Due.due("what was kept stays", x.taken(5, 0), 7);
        Due.due("keep(5, -1)", x.keep(5, -1), 1);
        Due.due("nothing is taken", x.taken(5, 0), -11);
        Due.due("taken(5, 8)", x.taken(5, 8), BackHouse.BAD);
        Due.due("taken(5, -1)", x.taken(5, -1), BackHouse.BAD);
        Due.due("taken(6, 0)", x.taken(6, 0), BackHouse.BAD);
        Due.due("taken(-1, 0)", x.taken(-1, 0), BackHouse.BAD);
        x.row(5, 0, 1);
        Due.due("a row is taken", x.taken(5, 0), -12);
        x.keep(5, 2);
        Due.due("a body in its place", x.taken(5, 2), 2);
        Due.due("no row any more", x.put(5, 0, 1), -12);
    }

    private static void row() {
        BackHouse x = new BackHouse();
        for (int sort = 0; sort <= 4; sort++) {
            Due.due("row(0, " + sort + ", 60)", x.row(0, sort, 60), 1);
            for (int i = 2; i < 60; i += 3) {
                Due.due("element(0, " + i + ")", x.element(0, i), 0);
                x.put(0, i, i + 1);
            }
            Due.due("the last one", x.element(0, 59), sort == 4 ? 1 : 60);
        }
        Due.due("row(0, 3, 0)", x.row(0, 3, 0), 1);
        Due.due("no place 0", x.put(0, 0, 1), -13);
        x.row(1, 3, 2);
        x.put(1, 0, 5);
        int[][] bad = {{6, 0, 1}, {-1, 0, 1}, {1, 5, 1}, {1, -1, 1}, {1, 0, 61}, {1, 0, FAR}, {6, 0, -1}, {1, 5, -1}};
        for (int[] call : bad) {
            Due.due("row(" + call[0] + ", " + call[1] + ", " + call[2] + ")", x.row(call[0], call[1], call[2]), BackHouse.BAD);
        }
        Due.due("row(1, 0, -1)", x.row(1, 0, -1), -14);
        Due.due("row(1, 0, MIN)", x.row(1, 0, FAR_BELOW), -14);
        Due.due("what was there stays", x.element(1, 0), 5);
    }

    private static void lowestBits() {
        long[] values = {0, 1, -1, 127, 128, 255, 256, 32767, 32768, 65536, 1L << 31, 1L << 32, (1L << 40) + 7,
            Long.MAX_VALUE, Long.MIN_VALUE};
        BackHouse x = new BackHouse();
        for (int sort = 0; sort <= 4; sort++) {
            x.row(sort, sort, 1);
        }
        for (long v : values) {
            long[] want = {(byte) v, (short) v, (int) v, v, v == 0 ? 0 : 1};
            for (int sort = 0; sort <= 4; sort++) {
                Due.due("put(" + sort + ", 0, " + v + ")", x.put(sort, 0, v), 1);
                Due.due("element(" + sort + ", 0) of " + v, x.element(sort, 0), want[sort]);
            }
        }
        x.put(0, 0, 200);
        Due.due("200 in a byte", x.element(0, 0), -56);
        x.put(1, 0, 40000);
        Due.due("40000 in a short", x.element(1, 0), -25536);
    }

    private static void putAndElementRefuse() {
        BackHouse x = new BackHouse();
        x.row(0, 2, 3);
        x.keep(1, x.body(4));
        int[] shelves = {6, -1, FAR, FAR_BELOW, 2, 1, 0, 0, 0, 0, 2, 1};
        int[] places = {0, 0, 0, 0, 0, 0, 3, -1, FAR, FAR_BELOW, -1, -1};
        int[] want = {-1, -1, -1, -1, -11, -12, -13, -13, -13, -13, -11, -12};
        for (int i = 0; i < shelves.length; i++) {
            String call = "(" + shelves[i] + ", " + places[i];
            Due.due("put" + call + ", 7)", x.put(shelves[i], places[i], 7), want[i]);
            Due.due("element" + call + ")", x.element(shelves[i], places[i]), Long.MIN_VALUE);
        }
        for (int i = 0; i < 3; i++) {
            Due.due("element(0, " + i + ")", x.element(0, i), 0);
        }
    }

    private static void rowIs(BackHouse x, int shelf, long... want) {
        for (int i = 0; i < want.length; i++) {
            Due.due("element(" + shelf + ", " + i + ")", x.element(shelf, i), want[i]);
        }
    }

    private static BackHouse withTwoRows() {
        BackHouse x = new BackHouse();
        x.row(0, 3, 5);
        x.row(1, 3, 4);
        for (int i = 0; i < 5; i++) {
            x.put(0, i, i + 1);
            x.put(1, i, 10 * i + 10);
        }
        return x;
    }

    private static void shift() {
        BackHouse x = withTwoRows();
        Due.due("to another one", x.shift(0, 3, 1, 1, 2), 2);
        rowIs(x, 1, 10, 4, 5, 40);
        rowIs(x, 0, 1, 2, 3, 4, 5);
        Due.due("up in the same one", x.shift(0, 0, 0, 1, 4), 4);
        rowIs(x, 0, 1, 1, 2, 3, 4);
        Due.due("down in the same one", x.shift(0, 2, 0, 0, 3), 3);
        rowIs(x, 0, 2, 3, 4, 3, 4);
        Due.due("all of it", x.shift(1, 0, 0, 0, 4), 4);
        rowIs(x, 0, 10, 4, 5, 40, 4);
        Due.due("none of it", x.shift(0, 0, 1, 0, 0), 0);
        Due.due("none from the end to the end", x.shift(0, 5, 1, 4, 0), 0);
        rowIs(x, 1, 10, 4, 5, 40);
    }

    private static void shiftRefuses() {
        BackHouse x = withTwoRows();
        x.row(2, 2, 5);
        x.keep(3, x.body(0));
        int[][] calls = {{6, 0, 0, 0, 1, -1}, {0, 0, 6, 0, 1, -1}, {-1, 0, 4, 0, 1, -1}, {4, 0, -1, 0, -1, -1},
            {4, 0, 0, 0, 1, -11}, {0, 0, 4, 0, 1, -11}, {4, 0, 3, 0, -1, -11}, {3, 0, 4, 0, 1, -11},
            {3, 0, 0, 0, 1, -12}, {0, 0, 3, 0, 1, -12}, {0, 0, 2, 0, 1, -12}, {3, 0, 3, 0, 1, -12}, {0, 9, 2, -9, -1, -12},
            {0, -1, 1, 0, 1, -13}, {0, 0, 1, -1, 1, -13}, {0, 0, 1, 0, -1, -13}, {0, 0, 1, 0, 5, -13}, {1, 0, 0, 0, 5, -13},
            {0, 4, 1, 0, 2, -13}, {0, 0, 1, 3, 2, -13}, {0, 6, 1, 0, 0, -13}, {0, 0, 1, 5, 0, -13},
            {0, FAR, 1, 0, 1, -13}, {0, 1, 1, FAR, FAR, -13}, {0, 1, 1, 1, FAR, -13}, {0, FAR_BELOW, 1, 0, FAR_BELOW, -13}};
        for (int[] c : calls) {
            Due.due("shift(" + c[0] + ", " + c[1] + ", " + c[2] + ", " + c[3] + ", " + c[4] + ")",
                    x.shift(c[0], c[1], c[2], c[3], c[4]), c[5]);
        }
        rowIs(x, 0, 1, 2, 3, 4, 5);
        rowIs(x, 1, 10, 20, 30, 40);
        x.row(5, 0, 3);
        Due.due("bytes to a body", x.shift(5, 0, 3, 0, 0), -12);
        Due.due("a body to bytes", x.shift(3, 0, 5, 0, 0), -12);
        x.row(3, 0, 3);
        x.keep(3, 0);
        Due.due("bytes to a body where bytes were", x.shift(5, 0, 3, 0, 1), -12);
        Due.due("a body where bytes were to bytes", x.shift(3, 0, 5, 0, 1), -12);
    }

    private static void count() {
        BackHouse x = new BackHouse();
        x.thing(0, 0);
        x.thing(0, 0);
        x.feed(1);
        x.feed(1);
        x.feed(1);
        x.mend(0, 3, 1);
        for (int i = 0; i < 5; i++) {
            x.body(7);
        }
        x.act(4, TELLS, 0);
        int[] want = {2, 3, 1, 5, 8};
        for (int what = 0; what < 5; what++) {
            Due.due("count(" + what + ")", x.count(what), want[what]);
        }
        Due.due("count(5)", x.count(5), BackHouse.BAD);
        Due.due("count(-1)", x.count(-1), BackHouse.BAD);
        Due.due("count(MIN)", x.count(FAR_BELOW), BackHouse.BAD);
    }
}

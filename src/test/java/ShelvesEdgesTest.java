/** Each sentence on bodies, acts and shelves that names an edge, in a test of its own: promises 29 to 38. */
public final class ShelvesEdgesTest {
    private static final int GOES = 0, FINDS = 1, SETS = 2, TELLS = 3;
    private static final int GOING = 0, QUICK = 1, LONG = 2, SET = 3, ASKED = 4, LISTED = 5, LAST = 7;
    private static final int BAD = BackHouse.BAD, FULL = BackHouse.FULL;
    private static final int FAR = Integer.MAX_VALUE, FAR_BELOW = Integer.MIN_VALUE;

    public static void main(String[] args) {
        bodiesOfKinds();
        fiftyBodies();
        xWraps();
        itsNumber();
        ownKindOrTheNextAbove();
        superFromAbove();
        noSuchBodyOrAct();
        theTrace();
        traceIsBad();
        allKeptOrNot();
        nothingAtFirst();
        keepNothing();
        keepABody();
        keepIsBad();
        rowOf0To60();
        zeroAtFirst();
        rowIsBad();
        belowZero();
        lowestBits();
        aBoolean();
        putPlaces();
        putInOrder();
        elementIsTheLeastLong();
        shiftAsTheyAllWereBefore();
        shiftToAnother();
        shiftOfNone();
        shiftOfAll();
        shiftPlaces();
        shiftKinds();
        shiftOfNothing();
        shiftInOrder();
        takenForOrUnder();
        takenOfAnotherKind();
        takenInOrder();
        countOfEach();
        countIsBad();
        Due.close();
    }

    private static void bodiesOfKinds() {
        Due.sentence("A BODY of a KIND (0 .. 7) is kept: its number. BAD");
        BackHouse x = new BackHouse();
        for (int kind : new int[] {-1, 8, FAR, FAR_BELOW}) {
            Due.due("body(" + kind + ")", x.body(kind), BAD);
        }
        for (int kind = 0; kind < 8; kind++) {
            Due.due("body(" + kind + ")", x.body(kind), kind);
            x.keep(0, kind);
            Due.due("its kind", x.taken(0, 0), kind);
        }
        Due.due("count(3)", x.count(3), 8);
    }

    private static void fiftyBodies() {
        Due.sentence("BODIES 0 .. 49 are kept by call");
        BackHouse x = new BackHouse();
        for (int number = 0; number < 50; number++) {
            Due.due("no body " + number + " yet", x.keep(0, number), BAD);
            Due.due("body " + number, x.body(number % 8), number);
            Due.due("keep(0, " + number + ")", x.keep(0, number), 1);
            Due.due("its kind", x.taken(0, 0), number % 8);
        }
        Due.due("one too many", x.body(0), FULL);
        Due.due("BAD is named first", x.body(8), BAD);
        Due.due("BAD is named first", x.body(-1), BAD);
        Due.due("count(3)", x.count(3), 50);
        Due.due("keep(0, 50)", x.keep(0, 50), BAD);
        Due.due("act(49, 0, 0)", x.act(49, GOES, 0), 52);
        Due.due("act(50, 0, 0)", x.act(50, GOES, 0), 0);
    }

    private static BackHouse withBodies() {
        BackHouse x = new BackHouse();
        for (int kind = 0; kind < 8; kind++) {
            x.body(kind);
        }
        return x;
    }

    private static void xWraps() {
        Due.sentence("ACTS with x (an int that wraps)");
        BackHouse x = withBodies();
        Due.due("goes: MAX + 1 + 3", x.act(QUICK, GOES, FAR), FAR_BELOW + 3);
        Due.due("goes: 2 to the 30th, twice", x.act(6, GOES, (1 << 30) - 6), FAR_BELOW);
        Due.due("finds: 2 to the 30th, twice", x.act(GOING, FINDS, 1 << 30), FAR_BELOW);
        Due.due("finds: -MIN", x.act(LONG, FINDS, (1 << 30) - 2), FAR_BELOW);
        Due.due("finds: x + 1", x.act(SET, FINDS, FAR), -2 * (FAR_BELOW + 3));
        Due.due("sets: three times", x.act(SET, SETS, FAR_BELOW), (FAR_BELOW ^ 3) * 3);
        Due.due("sets: less what goes", x.act(LISTED, SETS, FAR), (FAR ^ 5) * 3 - 7);
        Due.due("goes: MIN * 2 - 1", x.act(LAST, GOES, FAR_BELOW - 7), -1);
        Due.due("tells: MIN - 1", x.act(GOING, TELLS, 1 << 30), FAR);
    }

    private static void itsNumber() {
        Due.sentence("n its number");
        BackHouse x = new BackHouse();
        for (int number = 0; number < 50; number++) {
            x.body(0);
            Due.due("goes of " + number, x.act(number, GOES, 100), 100 + number);
            Due.due("sets of " + number, x.act(number, SETS, 21), 21 ^ number);
        }
    }

    /** Each kind's four acts with x 6, by bodies that have their kind's number. */
    private static void ownKindOrTheNextAbove() {
        Due.sentence("goes(..) and so on: the body of its own KIND, or of the next KIND above that has one");
        int[][] want = {{6, 12, 6, 11}, {10, 20, 7, 20}, {8, -16, 4, -19}, {9, -20, 15, -26}, {13, 26, 2, 16},
            {11, -24, 2, -28}, {24, 48, 0, 41}, {25, 55, 1, 49}};
        BackHouse x = withBodies();
        for (int kind = 0; kind < 8; kind++) {
            for (int act = GOES; act <= TELLS; act++) {
                Due.due("act(" + kind + ", " + act + ", 6)", x.act(kind, act, 6), want[kind][act]);
            }
        }
    }

    private static void traceIs(BackHouse x, int... bodies) {
        Due.due("count(4)", x.count(4), bodies.length);
        for (int i = 0; i < 26; i++) {
            Due.due("trace(" + i + ")", x.trace(i), i < bodies.length ? bodies[i] : BAD);
        }
    }

    private static void superFromAbove() {
        Due.sentence("super: from the KIND above the body's on");
        BackHouse x = withBodies();
        x.act(LAST, FINDS, 1);
        traceIs(x, 80, 10, 81, 70, 1, 11);
        x.act(LISTED, SETS, 1);
        traceIs(x, 60, 40, 11, 1);
        x.act(LISTED, FINDS, 1);
        traceIs(x, 41, 30, 10, 1);
        x.act(ASKED, GOES, 1);
        traceIs(x, 20, 1);
    }

    private static void noSuchBodyOrAct() {
        Due.sentence("0, and no TRACE then: no such BODY, ACT.");
        int[][] none = {{8, 0}, {-1, 0}, {49, 0}, {50, 0}, {FAR, 0}, {FAR_BELOW, 0}, {7, 4}, {7, -1}, {7, FAR}, {7, FAR_BELOW}};
        BackHouse x = withBodies();
        for (int[] call : none) {
            x.act(LAST, TELLS, 3);
            Due.due("a trace", x.count(4), 8);
            Due.due("act(" + call[0] + ", " + call[1] + ", 9)", x.act(call[0], call[1], 9), 0);
            traceIs(x);
        }
        Due.due("no bodies at all", new BackHouse().act(0, 0, 9), 0);
    }

    private static void theTrace() {
        Due.sentence("numbers of the bodies that ran in the latest act(), as they began");
        BackHouse x = withBodies();
        traceIs(x);
        x.act(LISTED, TELLS, 6);
        traceIs(x, 61, 2, 41, 30, 10, 1, 60, 40, 11, 1);
        x.act(GOING, SETS, 6);
        traceIs(x, 11);
        x.act(LAST, TELLS, 6);
        traceIs(x, 2, 80, 10, 81, 70, 1, 11, 11);
        x.act(ASKED, TELLS, 6);
        traceIs(x, 50, 2, 10, 20, 1, 11);
        x.body(0);
        x.keep(0, 0);
        x.taken(0, 0);
        traceIs(x, 50, 2, 10, 20, 1, 11);
    }

    private static void traceIsBad() {
        Due.sentence("THE TRACE's i-th body. BAD. .. the first 24 are kept");
        BackHouse x = withBodies();
        x.act(LISTED, TELLS, 6);
        for (int i : new int[] {-1, 10, 23, 24, 25, FAR, FAR_BELOW}) {
            Due.due("trace(" + i + ")", x.trace(i), BAD);
        }
        Due.due("trace(9)", x.trace(9), 1);
    }

    private static void allKeptOrNot() {
        Due.sentence("4 bodies that ran in the latest act() (all, kept or not)");
        BackHouse x = withBodies();
        Due.due("none yet", x.count(4), 0);
        int[] want = {4, 5, 5, 7, 6, 10, 5, 8};
        for (int kind = 0; kind < 8; kind++) {
            x.act(kind, TELLS, 1);
            Due.due("tells of " + kind, x.count(4), want[kind]);
        }
    }

    private static void nothingAtFirst() {
        Due.sentence("SHELVES 0 .. 5 each hold nothing (at first)");
        BackHouse x = new BackHouse();
        for (int shelf = 0; shelf < 6; shelf++) {
            Due.due("taken(" + shelf + ", 0)", x.taken(shelf, 0), -11);
            Due.due("put(" + shelf + ", 0, 1)", x.put(shelf, 0, 1), -11);
            Due.due("judge(" + shelf + ", 0)", x.judge(shelf, 0), -11);
            x.row(shelf, 2, 1);
            x.put(shelf, 0, 70 + shelf);
        }
        for (int shelf = 0; shelf < 6; shelf++) {
            Due.due("element(" + shelf + ", 0)", x.element(shelf, 0), 70 + shelf);
        }
    }

    private static void keepNothing() {
        Due.sentence("A SHELF holds nothing (body -1)");
        BackHouse x = withBodies();
        Due.due("nothing where nothing was", x.keep(0, -1), 1);
        Due.due("taken(0, 0)", x.taken(0, 0), -11);
        x.keep(0, 3);
        Due.due("nothing where a body was", x.keep(0, -1), 1);
        Due.due("taken(0, 0)", x.taken(0, 0), -11);
        x.row(0, 0, 5);
        Due.due("nothing where a row was", x.keep(0, -1), 1);
        Due.due("put(0, 0, 1)", x.put(0, 0, 1), -11);
    }

    private static void keepABody() {
        Due.sentence("or a BODY: 1.");
        BackHouse x = withBodies();
        x.row(0, 0, 5);
        for (int kind = 0; kind < 8; kind++) {
            Due.due("keep(0, " + kind + ")", x.keep(0, kind), 1);
            Due.due("taken(0, 0)", x.taken(0, 0), kind);
            Due.due("no row any more", x.put(0, 0, 1), -12);
            Due.due("the same on another shelf", x.keep(5, kind), 1);
            Due.due("taken(5, 0)", x.taken(5, 0), kind);
        }
    }

    private static void keepIsBad() {
        Due.sentence("A SHELF holds nothing (body -1), or a BODY: 1. BAD.");
        BackHouse x = withBodies();
        x.keep(0, 4);
        for (int body : new int[] {-2, 8, 49, 50, FAR, FAR_BELOW}) {
            Due.due("keep(0, " + body + ")", x.keep(0, body), BAD);
        }
        for (int shelf : new int[] {-1, 6, FAR, FAR_BELOW}) {
            Due.due("keep(" + shelf + ", 0)", x.keep(shelf, 0), BAD);
            Due.due("keep(" + shelf + ", -1)", x.keep(shelf, -1), BAD);
        }
        Due.due("what was there stays", x.taken(0, 0), 4);
        Due.due("without bodies", new BackHouse().keep(0, 0), BAD);
    }

    private static void rowOf0To60() {
        Due.sentence("of 0 .. 60 elements");
        for (int sort = 0; sort <= 4; sort++) {
            BackHouse x = new BackHouse();
            for (int n = 0; n <= 60; n++) {
                Due.due("row(0, " + sort + ", " + n + ")", x.row(0, sort, n), 1);
                Due.due("behind its end", x.put(0, n, 1), -13);
                Due.due("its last one", n == 0 ? 1 : x.put(0, n - 1, 1), 1);
                Due.due("its first one", n == 0 ? 1 : x.put(0, 0, 1), 1);
            }
        }
    }

    private static void zeroAtFirst() {
        Due.sentence("0 at first (false)");
        for (int sort = 0; sort <= 4; sort++) {
            BackHouse x = new BackHouse();
            for (int round = 0; round < 2; round++) {
                x.row(0, sort, 60);
                for (int i = 0; i < 60; i++) {
                    Due.due("element(0, " + i + ")", x.element(0, i), 0);
                    x.put(0, i, -1);
                }
            }
            x.row(0, sort, 1);
            x.keep(0, x.body(0));
            x.row(0, sort, 60);
            Due.due("a longer one's last", x.element(0, 59), 0);
        }
    }

    private static void rowIsBad() {
        Due.sentence("A SHELF holds a ROW: 1. BAD (sort, n above 60); -14.");
        BackHouse x = withBodies();
        x.keep(0, 4);
        int[][] bad = {{-1, 0, 1}, {6, 0, 1}, {FAR, 0, 1}, {FAR_BELOW, 0, 1}, {0, -1, 1}, {0, 5, 1}, {0, FAR, 1},
            {0, FAR_BELOW, 1}, {0, 0, 61}, {0, 4, 61}, {0, 0, FAR}};
        for (int[] call : bad) {
            Due.due("row(" + call[0] + ", " + call[1] + ", " + call[2] + ")", x.row(call[0], call[1], call[2]), BAD);
        }
        Due.due("BAD is named first: row(6, 0, -1)", x.row(6, 0, -1), BAD);
        Due.due("BAD is named first: row(0, 5, -1)", x.row(0, 5, -1), BAD);
        Due.due("what was there stays", x.taken(0, 0), 4);
    }

    private static void belowZero() {
        Due.sentence("-14 a size below 0");
        BackHouse x = withBodies();
        x.keep(0, 4);
        for (int sort = 0; sort <= 4; sort++) {
            for (int n : new int[] {-1, -60, -61, FAR_BELOW}) {
                Due.due("row(0, " + sort + ", " + n + ")", x.row(0, sort, n), -14);
            }
        }
        Due.due("what was there stays", x.taken(0, 0), 4);
    }

    private static void lowestBits() {
        Due.sentence("what is put in keeps its lowest bits");
        int[] bits = {8, 16, 32, 64};
        for (int sort = 0; sort <= 3; sort++) {
            BackHouse x = new BackHouse();
            x.row(0, sort, 2);
            long most = -1L >>> 65 - bits[sort];
            long[] values = {0, 1, -1, most, most + 1, -most - 1, -most - 2, 2 * most + 1, 2 * most + 2, Long.MAX_VALUE,
                Long.MIN_VALUE, 0x123456789ABCDEFL};
            for (long v : values) {
                Due.due("put(0, 1, " + v + ")", x.put(0, 1, v), 1);
                Due.due("element(0, 1) of sort " + sort, x.element(0, 1), v << 64 - bits[sort] >> 64 - bits[sort]);
                Due.due("the one beside it", x.element(0, 0), 0);
            }
        }
    }

    private static void aBoolean() {
        Due.sentence("(a boolean: whether it is not 0; 1 or 0)");
        BackHouse x = new BackHouse();
        x.row(0, 4, 1);
        for (long v : new long[] {1, -1, 2, 256, 1L << 32, Long.MIN_VALUE, Long.MAX_VALUE}) {
            Due.due("put(0, 0, " + v + ")", x.put(0, 0, v), 1);
            Due.due("element(0, 0)", x.element(0, 0), 1);
            Due.due("put(0, 0, 0)", x.put(0, 0, 0), 1);
            Due.due("element(0, 0)", x.element(0, 0), 0);
        }
    }

    private static void putPlaces() {
        Due.sentence("-13 a place that is not there");
        BackHouse x = new BackHouse();
        x.row(0, 2, 60);
        x.row(0, 2, 3);
        for (int i : new int[] {-1, 3, 4, 59, 60, FAR, FAR_BELOW}) {
            Due.due("put(0, " + i + ", 7)", x.put(0, i, 7), -13);
            Due.due("element(0, " + i + ")", x.element(0, i), Long.MIN_VALUE);
        }
        for (int i = 0; i < 3; i++) {
            Due.due("element(0, " + i + ")", x.element(0, i), 0);
            Due.due("put(0, " + i + ", 7)", x.put(0, i, 7), 1);
        }
        x.row(1, 2, 0);
        Due.due("a row of none", x.put(1, 0, 7), -13);
    }

    private static void putInOrder() {
        Due.sentence("Element i of a ROW becomes v: 1. BAD, -11, -12, -13.");
        BackHouse x = withBodies();
        x.keep(1, 0);
        for (int i : new int[] {0, -1, 60}) {
            Due.due("put(6, " + i + ", 1)", x.put(6, i, 1), BAD);
            Due.due("put(-1, " + i + ", 1)", x.put(-1, i, 1), BAD);
            Due.due("put(FAR, " + i + ", 1)", x.put(FAR, i, 1), BAD);
            Due.due("put(FAR_BELOW, " + i + ", 1)", x.put(FAR_BELOW, i, 1), BAD);
            Due.due("put(0, " + i + ", 1)", x.put(0, i, 1), -11);
            Due.due("put(1, " + i + ", 1)", x.put(1, i, 1), -12);
        }
    }

    private static void elementIsTheLeastLong() {
        Due.sentence("Element i of a ROW; Long.MIN_VALUE: BAD, -11 to -13.");
        BackHouse x = withBodies();
        x.keep(1, 0);
        x.row(2, 3, 3);
        int[][] none = {{6, 0}, {-1, 0}, {FAR, 0}, {FAR_BELOW, 0}, {0, 0}, {0, -1}, {1, 0}, {1, 60}, {2, 3}, {2, -1}, {2, FAR}};
        for (int[] call : none) {
            Due.due("element(" + call[0] + ", " + call[1] + ")", x.element(call[0], call[1]), Long.MIN_VALUE);
        }
        for (long v : new long[] {-1, -11, -12, -13, Long.MIN_VALUE}) {
            x.put(2, 2, v);
            Due.due("element(2, 2)", x.element(2, 2), v);
        }
    }

    private static BackHouse withRow(int size) {
        BackHouse x = new BackHouse();
        x.row(0, 1, size);
        for (int i = 0; i < size; i++) {
            x.put(0, i, i + 1);
        }
        return x;
    }

    private static void shiftAsTheyAllWereBefore() {
        Due.sentence("come to another one (or the same) from j on, as they all were before: n");
        for (int n = 0; n <= 6; n++) {
            for (int i = 0; i + n <= 6; i++) {
                for (int j = 0; j + n <= 6; j++) {
                    BackHouse x = withRow(6);
                    String call = "shift(0, " + i + ", 0, " + j + ", " + n + ")";
                    Due.due(call, x.shift(0, i, 0, j, n), n);
                    for (int at = 0; at < 6; at++) {
                        boolean came = at >= j && at < j + n;
                        Due.due("element(0, " + at + ") behind " + call, x.element(0, at), came ? at - j + i + 1 : at + 1);
                    }
                }
            }
        }
    }

    private static void shiftToAnother() {
        Due.sentence("n elements of a ROW from i on come to another one");
        for (int sort = 0; sort <= 4; sort++) {
            BackHouse x = new BackHouse();
            x.row(4, sort, 9);
            x.row(5, sort, 4);
            for (int i = 0; i < 9; i++) {
                x.put(4, i, i % 2);
            }
            Due.due("shift(4, 6, 5, 1, 3)", x.shift(4, 6, 5, 1, 3), 3);
            int[] want = {0, 0, 1, 0};
            for (int i = 0; i < 4; i++) {
                Due.due("element(5, " + i + ")", x.element(5, i), want[i]);
            }
            for (int i = 0; i < 9; i++) {
                Due.due("element(4, " + i + ")", x.element(4, i), i % 2);
            }
        }
    }

    private static void shiftOfNone() {
        Due.sentence("n elements of a ROW .. : n. .. -13 (n below 0, too)");
        BackHouse x = withRow(3);
        x.row(1, 1, 0);
        Due.due("shift(0, 0, 1, 0, 0)", x.shift(0, 0, 1, 0, 0), 0);
        Due.due("shift(1, 0, 0, 0, 0)", x.shift(1, 0, 0, 0, 0), 0);
        Due.due("shift(1, 0, 1, 0, 0)", x.shift(1, 0, 1, 0, 0), 0);
        Due.due("shift(0, 2, 0, 2, 0)", x.shift(0, 2, 0, 2, 0), 0);
        Due.due("shift(1, 0, 0, 0, 1)", x.shift(1, 0, 0, 0, 1), -13);
        for (int n : new int[] {-1, -3, FAR_BELOW}) {
            Due.due("shift(0, 0, 0, 0, " + n + ")", x.shift(0, 0, 0, 0, n), -13);
            Due.due("shift(0, 2, 0, 2, " + n + ")", x.shift(0, 2, 0, 2, n), -13);
        }
    }

    private static void shiftOfAll() {
        Due.sentence("of 0 .. 60 elements");
        BackHouse x = withRow(60);
        x.row(1, 1, 60);
        Due.due("shift(0, 0, 1, 0, 60)", x.shift(0, 0, 1, 0, 60), 60);
        Due.due("element(1, 59)", x.element(1, 59), 60);
        Due.due("element(1, 0)", x.element(1, 0), 1);
        Due.due("shift(0, 0, 1, 0, 61)", x.shift(0, 0, 1, 0, 61), -13);
        Due.due("shift(0, 59, 1, 0, 1)", x.shift(0, 59, 1, 0, 1), 1);
        Due.due("element(1, 0)", x.element(1, 0), 60);
    }

    private static void shiftPlaces() {
        Due.sentence("-13 a place that is not there");
        BackHouse x = withRow(5);
        x.row(1, 1, 3);
        int[][] none = {{0, -1, 1, 0, 1}, {0, 0, 1, -1, 1}, {0, 5, 1, 0, 1}, {0, 0, 1, 3, 1}, {0, 4, 1, 0, 2}, {0, 0, 1, 2, 2},
            {0, 0, 1, 0, 4}, {1, 0, 0, 0, 4}, {0, 0, 0, 0, 6}, {0, 6, 1, 0, 0}, {0, 0, 1, 4, 0}, {0, -1, 1, 0, 0},
            {0, 0, 1, -1, 0}, {0, FAR, 1, 0, 1}, {0, 1, 1, FAR, 1}, {0, 1, 1, 1, FAR}, {0, FAR, 1, FAR, FAR},
            {0, FAR_BELOW, 1, 0, 1}, {0, 0, 1, FAR_BELOW, 1}, {0, FAR, 1, 0, FAR_BELOW}};
        for (int[] c : none) {
            Due.due("shift(" + c[0] + ", " + c[1] + ", " + c[2] + ", " + c[3] + ", " + c[4] + ")",
                    x.shift(c[0], c[1], c[2], c[3], c[4]), -13);
        }
        for (int i = 0; i < 5; i++) {
            Due.due("element(0, " + i + ")", x.element(0, i), i + 1);
        }
        for (int i = 0; i < 3; i++) {
            Due.due("element(1, " + i + ")", x.element(1, i), 0);
        }
    }

    private static void shiftKinds() {
        Due.sentence("-12 (no ROWS, or of unlike sorts)");
        BackHouse x = withBodies();
        for (int sort = 0; sort <= 4; sort++) {
            x.row(sort, sort, 4);
        }
        x.keep(5, 0);
        for (int from = 0; from <= 5; from++) {
            for (int to = 0; to <= 5; to++) {
                Due.due("shift(" + from + ", 0, " + to + ", 0, 1)", x.shift(from, 0, to, 0, 1), from == to && from < 5 ? 1 : -12);
            }
        }
        x.keep(4, 0);
        Due.due("two bodies", x.shift(4, 0, 5, 0, 0), -12);
    }

    private static void shiftOfNothing() {
        Due.sentence("-11 (either)");
        BackHouse x = withBodies();
        x.row(0, 0, 4);
        x.keep(1, 0);
        int[][] none = {{0, 2}, {2, 0}, {1, 2}, {2, 1}, {2, 2}, {2, 3}};
        for (int[] pair : none) {
            Due.due("shift(" + pair[0] + ", 0, " + pair[1] + ", 0, 1)", x.shift(pair[0], 0, pair[1], 0, 1), -11);
            Due.due("shift(" + pair[0] + ", 0, " + pair[1] + ", 0, 0)", x.shift(pair[0], 0, pair[1], 0, 0), -11);
        }
    }

    private static void shiftInOrder() {
        Due.sentence("BAD, -11 (either), -12 (no ROWS, or of unlike sorts), -13");
        BackHouse x = withBodies();
        x.row(0, 0, 4);
        x.row(1, 1, 4);
        x.keep(2, 0);
        for (int shelf : new int[] {-1, 6, FAR, FAR_BELOW}) {
            for (int other = 0; other <= 3; other++) {
                Due.due("shift(" + shelf + ", 9, " + other + ", 9, -1)", x.shift(shelf, 9, other, 9, -1), BAD);
                Due.due("shift(" + other + ", 9, " + shelf + ", 9, -1)", x.shift(other, 9, shelf, 9, -1), BAD);
            }
        }
        for (int other = 0; other <= 3; other++) {
            Due.due("shift(3, 9, " + other + ", 9, -1)", x.shift(3, 9, other, 9, -1), -11);
            Due.due("shift(" + other + ", 9, 3, 9, -1)", x.shift(other, 9, 3, 9, -1), -11);
        }
        for (int other = 0; other <= 1; other++) {
            Due.due("shift(2, 9, " + other + ", 9, -1)", x.shift(2, 9, other, 9, -1), -12);
            Due.due("shift(" + other + ", 9, " + (1 - other) + ", 9, -1)", x.shift(other, 9, 1 - other, 9, -1), -12);
            Due.due("shift(" + other + ", 9, " + other + ", 9, -1)", x.shift(other, 9, other, 9, -1), -13);
        }
    }

    private static void takenForOrUnder() {
        Due.sentence("What a SHELF holds, taken for a BODY of KIND k (0 .. 7), or under it: its KIND.");
        String[] lines = {"0", "10", "20", "320", "410", "5320", "60", "760"};
        BackHouse x = withBodies();
        for (int kind = 0; kind < 8; kind++) {
            x.keep(0, kind);
            for (int k = 0; k < 8; k++) {
                Due.due(kind + " taken for " + k, x.taken(0, k), lines[kind].indexOf('0' + k) >= 0 ? kind : -12);
            }
        }
    }

    private static void takenOfAnotherKind() {
        Due.sentence("-12 it is of another kind");
        BackHouse x = new BackHouse();
        for (int sort = 0; sort <= 4; sort++) {
            x.row(0, sort, sort);
            for (int k = 0; k < 8; k++) {
                Due.due("a row taken for " + k, x.taken(0, k), -12);
            }
        }
    }

    private static void takenInOrder() {
        Due.sentence("BAD, -11, -12.");
        BackHouse x = withBodies();
        x.row(1, 0, 1);
        x.keep(2, 0);
        for (int v : new int[] {-1, 6, 8, FAR, FAR_BELOW}) {
            Due.due("taken(" + v + ", 0)", x.taken(v, 0), BAD);
            for (int shelf = 0; shelf <= 2 && v != 6; shelf++) {
                Due.due("taken(" + shelf + ", " + v + ")", x.taken(shelf, v), BAD);
            }
        }
        for (int k = 0; k < 8; k++) {
            Due.due("taken(0, " + k + ")", x.taken(0, k), -11);
        }
    }

    private static void countOfEach() {
        Due.sentence("0 THINGS, 1 bytes on THE TAPE, 2 changes that may be UNDONE, 3 BODIES, 4 bodies that ran");
        BackHouse x = new BackHouse();
        int[] most = {8, 120, 40, 50};
        for (int what = 0; what < 4; what++) {
            for (int i = 1; i <= most[what] + 1; i++) {
                switch (what) {
                    case 0: x.thing(0, 0); break;
                    case 1: x.feed(0); break;
                    case 2: x.mend(0, 3, i); break;
                    default: x.body(0);
                }
                Due.due("count(" + what + ")", x.count(what), Math.min(i, most[what]));
            }
        }
        Due.due("count(4)", x.count(4), 0);
        x.act(0, 1, 0);
        Due.due("count(4)", x.count(4), 2);
    }

    private static void countIsBad() {
        Due.sentence("How many: .. BAD.");
        BackHouse x = withBodies();
        for (int what : new int[] {-1, 5, FAR, FAR_BELOW}) {
            Due.due("count(" + what + ")", x.count(what), BAD);
        }
    }
}

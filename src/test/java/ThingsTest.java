/** Promises 1 to 5: a new object, thing, things, mend, of. */
public final class ThingsTest {
    private static final int WHOSE = 0, CHANCE = 1, STOP = 2, WORTH = 3, SETS_OFF = 4, PACE = 5, WAY = 6, PRICE = 7;
    private static final int FAR = Integer.MAX_VALUE, FAR_BELOW = Integer.MIN_VALUE;

    public static void main(String[] args) {
        aNewObject();
        thing();
        thingsComeFull();
        things();
        thingsThatDoNotCome();
        thingsFillUp();
        mendTakesWhatMayBe();
        mendRefuses();
        of();
        Due.close();
    }

    private static void aNewObject() {
        BackHouse x = new BackHouse();
        for (int what = 0; what <= 4; what++) {
            Due.due("new: count(" + what + ")", x.count(what), 0);
        }
        for (int person = 0; person < 6; person++) {
            Due.due("new: of(" + person + ", PACE)", x.of(person, PACE), 2);
            Due.due("new: of(" + person + ", WAY)", x.of(person, WAY), 3);
            Due.due("new: taken(" + person + ", 0)", x.taken(person, 0), -11);
            Due.due("new: led(" + person + ")", x.led(person), 0);
        }
        Due.due("new: of(0, PRICE)", x.of(0, PRICE), 1);
        Due.due("new: led(6)", x.led(6), BackHouse.NOT);
        Due.due("new: on()", x.on(), BackHouse.STATE);
        Due.due("new: drive(0, 0)", x.drive(0, 0), 18);
        Due.due("new: drive(1, 0)", x.drive(1, 0), BackHouse.BAD);
    }

    private static void thing() {
        BackHouse x = new BackHouse();
        Due.due("thing(0, 0)", x.thing(0, 0), 0);
        Due.due("thing(512, 6)", x.thing(512, 6), 1);
        Due.due("thing(307, 4)", x.thing(307, 4), 2);
        int[] bad = {13, 99, 113, 513, 599, 600, 612, -1, -12, -100, FAR, FAR_BELOW};
        for (int wc : bad) {
            Due.due("thing(" + wc + ", 0)", x.thing(wc, 0), BackHouse.BAD);
        }
        int[] noStop = {-1, 7, FAR, FAR_BELOW};
        for (int stop : noStop) {
            Due.due("thing(0, " + stop + ")", x.thing(0, stop), BackHouse.BAD);
        }
        Due.due("count(0)", x.count(0), 3);
        int[][] asTold = {{0, 0, 0, 10, 0}, {5, 12, 6, 10, 0}, {3, 7, 4, 10, 0}};
        for (int number = 0; number < 3; number++) {
            for (int what = WHOSE; what <= SETS_OFF; what++) {
                Due.due("of(" + number + ", " + what + ")", x.of(number, what), asTold[number][what]);
            }
        }
    }

    private static void thingsComeFull() {
        BackHouse x = new BackHouse();
        for (int number = 0; number < 8; number++) {
            Due.due("thing " + number, x.thing(6, number % 7), number);
        }
        Due.due("a ninth", x.thing(6, 0), BackHouse.FULL);
        Due.due("a ninth that may not be", x.thing(13, 0), BackHouse.BAD);
        Due.due("a ninth without a stop", x.thing(6, 7), BackHouse.BAD);
        Due.due("count(0)", x.count(0), 8);
    }

    private static BackHouse withRow(int sort, int... elements) {
        BackHouse x = new BackHouse();
        Houses.row(x, 2, sort, elements);
        return x;
    }

    private static void things() {
        BackHouse x = withRow(0, 9, 5, 12, 6, 99, 0, 0, 0, 0, 1, 2, 3);
        Due.due("things(2, 1, 2)", x.things(2, 1, 2), 2);
        int[][] asTold = {{5, 12, 6, 99, 0}, {0, 0, 0, 0, 0}};
        for (int number = 0; number < 2; number++) {
            for (int what = WHOSE; what <= SETS_OFF; what++) {
                Due.due("row: of(" + number + ", " + what + ")", x.of(number, what), asTold[number][what]);
            }
        }
        Due.due("within a four", x.things(2, 9, 1), 0);
        Due.due("one, then within a four", x.things(2, 5, 8), 1);
        Due.due("from its end on", x.things(2, 12, 1), 0);
        Due.due("from behind its end on", x.things(2, 13, 1), 0);
        Due.due("i below 0", x.things(2, -1, 1), 0);
        Due.due("i far below 0", x.things(2, FAR_BELOW, 8), 0);
        Due.due("i far", x.things(2, FAR, 8), 0);
        Due.due("i far less 2", x.things(2, FAR - 2, 8), 0);
        Due.due("count(0)", x.count(0), 3);
    }

    private static void thingsThatDoNotCome() {
        int[][] fours = {{6, 0, 0, 0}, {-1, 0, 0, 0}, {0, 13, 0, 0}, {0, -1, 0, 0},
            {0, 0, 7, 0}, {0, 0, -1, 0}, {0, 0, 0, 100}, {0, 0, 0, -1}};
        for (int[] four : fours) {
            BackHouse x = withRow(0, 1, 1, 1, 1, four[0], four[1], four[2], four[3], 2, 2, 2, 2);
            Due.due("one not as it may be", x.things(2, 0, 3), 1);
            Due.due("count(0) then", x.count(0), 1);
        }
        BackHouse x = withRow(0, 1, 1, 1, 1);
        Due.due("no shelf 6", x.things(6, 0, 1), BackHouse.BAD);
        Due.due("no shelf -1", x.things(-1, 0, 1), BackHouse.BAD);
        Due.due("n 0", x.things(2, 0, 0), BackHouse.BAD);
        Due.due("n 9", x.things(2, 0, 9), BackHouse.BAD);
        Due.due("n 9 where nothing is", x.things(0, 0, 9), BackHouse.BAD);
        Due.due("a missing row", x.things(0, 0, 1), 0);
        for (int sort = 1; sort <= 4; sort++) {
            Due.due("a row of sort " + sort, withRow(sort, 1, 1, 1, 1).things(2, 0, 1), -12);
        }
        x.body(0);
        x.keep(1, 0);
        Due.due("a body", x.things(1, 0, 1), -12);
        Due.due("none came", x.count(0), 0);
    }

    private static void thingsFillUp() {
        BackHouse x = withRow(0, new int[60]);
        Due.due("things(2, 0, 6)", x.things(2, 0, 6), 6);
        Due.due("two more fit", x.things(2, 28, 8), 2);
        Due.due("none fits", x.things(2, 0, 1), 0);
        Due.due("count(0)", x.count(0), 8);
    }

    private static void mendTakesWhatMayBe() {
        BackHouse x = new BackHouse();
        x.thing(206, 3);
        int[] first = {2, 6, 3, 10, 0, 2, 3, 1};
        int[] least = {0, 0, 0, 0, 0, 1, 1, 0};
        int[] most = {5, 12, 6, 99, 255, 9, 20, 9};
        for (int what = WHOSE; what <= PRICE; what++) {
            Due.due("mend to the most, " + what, x.mend(0, what, most[what]), first[what]);
            Due.due("of then, " + what, x.of(0, what), most[what]);
            Due.due("above the most, " + what, x.mend(0, what, most[what] + 1), BackHouse.BAD);
            Due.due("mend to the least, " + what, x.mend(0, what, least[what]), most[what]);
            Due.due("of then, " + what, x.of(0, what), least[what]);
            Due.due("below the least, " + what, x.mend(0, what, least[what] - 1), BackHouse.BAD);
            Due.due("of still, " + what, x.of(0, what), least[what]);
        }
        Due.due("mend(5, PACE, 7)", x.mend(5, PACE, 7), 2);
        Due.due("mend(5, WAY, 8)", x.mend(5, WAY, 8), 3);
        Due.due("of(5, PACE)", x.of(5, PACE), 7);
        Due.due("of(5, WAY)", x.of(5, WAY), 8);
        Due.due("of(4, PACE)", x.of(4, PACE), 2);
    }

    private static void mendRefuses() {
        BackHouse x = new BackHouse();
        x.thing(6, 0);
        int[][] none = {{1, WHOSE}, {-1, CHANCE}, {1, STOP}, {8, WORTH}, {1, SETS_OFF}, {6, PACE}, {-1, PACE},
            {6, WAY}, {-1, WAY}, {1, PRICE}, {-1, PRICE}, {0, 8}, {0, -1}, {0, FAR}, {FAR, 0}, {FAR_BELOW, 5}};
        for (int[] pair : none) {
            Due.due("mend(" + pair[0] + ", " + pair[1] + ", 1)", x.mend(pair[0], pair[1], 1), BackHouse.BAD);
            Due.due("of(" + pair[0] + ", " + pair[1] + ")", x.of(pair[0], pair[1]), BackHouse.BAD);
        }
        Due.due("no change is kept", x.count(2), 0);
    }

    private static void of() {
        BackHouse x = new BackHouse();
        Due.due("of(0, WHOSE) without things", x.of(0, WHOSE), BackHouse.BAD);
        x.thing(411, 5);
        Due.due("of(0, WHOSE)", x.of(0, WHOSE), 4);
        Due.due("of(0, CHANCE)", x.of(0, CHANCE), 11);
        Due.due("of(0, STOP)", x.of(0, STOP), 5);
        Due.due("of(0, WORTH)", x.of(0, WORTH), 10);
        Due.due("of(0, SETS_OFF)", x.of(0, SETS_OFF), 0);
    }
}

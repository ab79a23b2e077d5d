/** Each sentence on people, things and rows of them that names an edge, in a test of its own: promises 1 to 5. */
public final class ThingsEdgesTest {
    private static final int WHOSE = 0, CHANCE = 1, STOP = 2, WORTH = 3, SETS_OFF = 4, PACE = 5, WAY = 6, PRICE = 7;
    private static final int BAD = BackHouse.BAD, FULL = BackHouse.FULL;

    public static void main(String[] args) {
        nothingToForget();
        people();
        pace();
        thingsAsTheyCome();
        whose();
        chance();
        chanceOfTwelve();
        stop();
        worth();
        setsOff();
        itselfDoesNotMatter();
        stops();
        way();
        price();
        thingIsBad();
        thingIsFull();
        rowOfN();
        rowFromAPlaceOn();
        rowBelowZero();
        rowIsMissing();
        rowEnds();
        rowWithOneThatMayNotBe();
        rowWhereThingsAreFull();
        rowIsNoRowOfBytes();
        thingsIsBad();
        mendTellsWhatItWas();
        mendIsBad();
        mendNumbers();
        ofIsBad();
        atMost512Calls();
        Due.close();
    }

    private static void nothingToForget() {
        Due.sentence("Nothing to forget.");
        BackHouse x = new BackHouse();
        Due.due("count(0)", x.count(0), 0);
        Due.due("of(0, WHOSE)", x.of(0, WHOSE), BAD);
        Due.due("drive(0, 1)", x.drive(0, 1), 0);
        Due.due("drive(1, 1)", x.drive(1, 1), BAD);
        Due.due("first(0)", x.first(0), BackHouse.NOT);
        Due.due("lock(-1)", x.lock(-1), 0);
    }

    /** The number from least to most is there, the ones just outside are not. */
    private static void placesAre(BackHouse x, int what, int most, int atFirst) {
        for (int number = 0; number <= most; number++) {
            Due.due("of(" + number + ", " + what + ")", x.of(number, what), atFirst);
            Due.due("mend(" + number + ", " + what + ", 4)", x.mend(number, what, 4), atFirst);
            Due.due("of(" + number + ", " + what + ") then", x.of(number, what), 4);
        }
        for (int number : new int[] {-1, most + 1}) {
            Due.due("of(" + number + ", " + what + ")", x.of(number, what), BAD);
            Due.due("mend(" + number + ", " + what + ", 4)", x.mend(number, what, 4), BAD);
        }
    }

    /** All from least to most may be told, the ones just outside may not. */
    private static void valuesAre(BackHouse x, int what, int least, int most) {
        int was = x.of(0, what);
        Due.due("mend(0, " + what + ", " + (least - 1) + ")", x.mend(0, what, least - 1), BAD);
        Due.due("mend(0, " + what + ", " + (most + 1) + ")", x.mend(0, what, most + 1), BAD);
        Due.due("of(0, " + what + ") as it was", x.of(0, what), was);
        for (int v = least; v <= most; v++) {
            Due.due("mend(0, " + what + ", " + v + ")", x.mend(0, what, v), was);
            was = v;
        }
        Due.due("of(0, " + what + ") then", x.of(0, what), most);
    }

    private static void people() {
        Due.sentence("PEOPLE 0 .. 5");
        placesAre(new BackHouse(), PACE, 5, 2);
        BackHouse x = new BackHouse();
        Due.due("aloud(0, 5)", x.aloud(0, 5), 18);
        Due.due("aloud(0, 6)", x.aloud(0, 6), BAD);
        Due.due("aloud(0, -1)", x.aloud(0, -1), BAD);
    }

    private static void pace() {
        Due.sentence("PACE (1 .. 9; 2 at first)");
        Due.due("of(0, PACE)", new BackHouse().of(0, PACE), 2);
        valuesAre(new BackHouse(), PACE, 1, 9);
    }

    private static void thingsAsTheyCome() {
        Due.sentence("THINGS 0 .. 7, as they come");
        BackHouse x = new BackHouse();
        Houses.row(x, 0, 0, 1, 2, 3, 4, 5, 6, 0, 7);
        Due.due("thing(100, 1)", x.thing(100, 1), 0);
        Due.due("two from a row", x.things(0, 0, 2), 2);
        Due.due("of(1, STOP)", x.of(1, STOP), 3);
        Due.due("of(2, WORTH)", x.of(2, WORTH), 7);
        for (int number = 3; number < 8; number++) {
            Due.due("thing " + number, x.thing(0, number - 3), number);
            Due.due("of the next one", x.of(number + 1, STOP), BAD);
        }
        Due.due("of(7, STOP)", x.of(7, STOP), 4);
    }

    private static void whose() {
        Due.sentence("WHOSE (a PERSON)");
        for (int person = 0; person < 6; person++) {
            Due.due("thing by " + person, Houses.withThings(100 * person, 0).of(0, WHOSE), person);
        }
        Due.due("thing(600, 0)", new BackHouse().thing(600, 0), BAD);
        valuesAre(Houses.withThings(0, 0), WHOSE, 0, 5);
    }

    private static void chance() {
        Due.sentence("CHANCE (0 .. 12");
        for (int chance = 0; chance <= 12; chance++) {
            Due.due("thing of " + chance, Houses.withThings(400 + chance, 0).of(0, CHANCE), chance);
        }
        for (int person = 0; person < 6; person++) {
            Due.due("13 by " + person, new BackHouse().thing(100 * person + 13, 0), BAD);
            Due.due("99 by " + person, new BackHouse().thing(100 * person + 99, 0), BAD);
        }
        valuesAre(Houses.withThings(0, 0), CHANCE, 0, 12);
    }

    private static void chanceOfTwelve() {
        Due.sentence("in so many of twelve drives it is forgotten");
        for (int chance = 0; chance <= 12; chance++) {
            BackHouse x = Houses.withThings(chance, 0);
            x.mend(0, PACE, 1);
            x.feed('1');
            x.feed('2');
            x.law();
            Due.due("mean by " + chance, x.mean(0), 18 + chance);
            Due.due("below the line", x.mean(1), 1);
        }
    }

    private static void stop() {
        Due.sentence("STOP (0 .. 6: where it comes to mind)");
        for (int stop = 0; stop <= 6; stop++) {
            BackHouse x = Houses.withThings(0, stop);
            Due.due("of(0, STOP)", x.of(0, STOP), stop);
            x.mend(0, WORTH, 99);
            Due.due("minutes by " + stop, x.drive(1, 0), 18 + 6 * stop + 3);
        }
        Due.due("thing(0, 7)", new BackHouse().thing(0, 7), BAD);
        Due.due("thing(0, -1)", new BackHouse().thing(0, -1), BAD);
        valuesAre(Houses.withThings(0, 3), STOP, 0, 6);
    }

    private static void worth() {
        Due.sentence("WORTH (0 .. 99; 10 at first)");
        Due.due("of(0, WORTH)", Houses.withThings(0, 0).of(0, WORTH), 10);
        valuesAre(Houses.withThings(0, 0), WORTH, 0, 99);
    }

    private static void setsOff() {
        Due.sentence("SETS OFF (bits of THINGS, itself does not matter; 0 at first)");
        Due.due("of(0, SETS_OFF)", Houses.withThings(0, 0).of(0, SETS_OFF), 0);
        valuesAre(Houses.withThings(0, 0), SETS_OFF, 0, 255);
        for (int other = 1; other < 8; other++) {
            BackHouse x = Houses.withThings(0, 0, 0, 6, 0, 6, 0, 6, 0, 6, 0, 6, 0, 6, 0, 6);
            x.mend(0, SETS_OFF, 1 << other);
            x.mend(0, PRICE, 9);
            Due.due("the bit of " + other, x.drive(255, 3), 254 - (1 << other));
        }
    }

    private static void itselfDoesNotMatter() {
        Due.sentence("itself does not matter");
        BackHouse x = Houses.withThings(0, 0);
        x.mend(0, SETS_OFF, 1);
        Due.due("one going", x.drive(1, 1), 1);
        Due.due("a chain of one", x.chain(0), 1);
        Due.due("as it was told", x.of(0, SETS_OFF), 1);
    }

    private static void stops() {
        Due.sentence("STOPS 0 .. 6 (0 before the house)");
        placesAre(new BackHouse(), WAY, 5, 3);
        BackHouse x = new BackHouse();
        for (int way = 0; way < 6; way++) {
            x.mend(way, WAY, 1 + way);
        }
        Due.due("six ways", x.drive(0, 0), 21);
    }

    private static void way() {
        Due.sentence("one WAY minutes (1 .. 20; 3 at first)");
        Due.due("of(0, WAY)", new BackHouse().of(0, WAY), 3);
        valuesAre(new BackHouse(), WAY, 1, 20);
    }

    private static void price() {
        Due.sentence("PRICE of a minute (0 .. 9; 1 at first)");
        Due.due("of(0, PRICE)", new BackHouse().of(0, PRICE), 1);
        valuesAre(new BackHouse(), PRICE, 0, 9);
        placesAre(new BackHouse(), PRICE, 0, 1);
    }

    private static void thingIsBad() {
        Due.sentence("`int thing(int wc, int stop)`: .. BAD");
        int[][] bad = {{-1, 0}, {-88, 0}, {-100, 0}, {13, 0}, {613, 0}, {600, 0}, {1 << 30, 0}, {Integer.MIN_VALUE, 0},
            {0, -1}, {0, 7}, {0, Integer.MAX_VALUE}, {0, Integer.MIN_VALUE}};
        BackHouse x = new BackHouse();
        for (int[] call : bad) {
            Due.due("thing(" + call[0] + ", " + call[1] + ")", x.thing(call[0], call[1]), BAD);
        }
        Due.due("no thing came", x.count(0), 0);
        Due.due("the first one still", x.thing(0, 0), 0);
    }

    private static BackHouse full() {
        return Houses.withThings(0, 0, 0, 0, 0, 0, 0, 0, 0, 0, 0, 0, 0, 0, 0, 0);
    }

    private static void thingIsFull() {
        Due.sentence("FULL: 8.");
        BackHouse x = full();
        Due.due("count(0)", x.count(0), 8);
        Due.due("thing(512, 6)", x.thing(512, 6), FULL);
        Due.due("BAD is named first: thing(513, 6)", x.thing(513, 6), BAD);
        Due.due("BAD is named first: thing(512, 7)", x.thing(512, 7), BAD);
        Due.due("count(0) still", x.count(0), 8);
        Due.due("of(7, WHOSE) as it was", x.of(7, WHOSE), 0);
    }

    private static void rowOfN() {
        Due.sentence("n (1 .. 8) of them: how many came");
        for (int n = 1; n <= 8; n++) {
            BackHouse x = new BackHouse();
            x.row(0, 0, 60);
            Due.due("things(0, 0, " + n + ")", x.things(0, 0, n), n);
            Due.due("count(0)", x.count(0), n);
        }
        BackHouse x = new BackHouse();
        x.row(0, 0, 60);
        for (int n : new int[] {0, 9, -1, Integer.MAX_VALUE, Integer.MIN_VALUE}) {
            Due.due("things(0, 0, " + n + ")", x.things(0, 0, n), BAD);
        }
        Due.due("count(0)", x.count(0), 0);
    }

    private static BackHouse withRow(int... bytes) {
        BackHouse x = new BackHouse();
        Houses.row(x, 0, 0, bytes);
        return x;
    }

    private static void rowFromAPlaceOn() {
        Due.sentence("THINGS FROM A ROW of bytes, from place i on: by fours WHOSE, CHANCE, STOP, WORTH");
        BackHouse x = withRow(9, 5, 12, 6, 99, 1, 2, 3, 4);
        Due.due("things(0, 1, 2)", x.things(0, 1, 2), 2);
        int[][] want = {{5, 12, 6, 99, 0}, {1, 2, 3, 4, 0}};
        for (int number = 0; number < 2; number++) {
            for (int what = WHOSE; what <= SETS_OFF; what++) {
                Due.due("of(" + number + ", " + what + ")", x.of(number, what), want[number][what]);
            }
        }
    }

    private static void rowBelowZero() {
        Due.sentence("how many came (0 with i below 0)");
        for (int i : new int[] {-1, -4, -8, Integer.MIN_VALUE}) {
            BackHouse x = withRow(0, 0, 0, 0, 0, 0, 0, 0);
            Due.due("things(0, " + i + ", 2)", x.things(0, i, 2), 0);
            Due.due("count(0)", x.count(0), 0);
        }
    }

    private static void rowIsMissing() {
        Due.sentence("a SHELF that holds nothing is missing");
        BackHouse x = withRow(0, 0, 0, 0);
        Due.due("nothing at first", x.things(5, 0, 1), 0);
        x.keep(0, -1);
        Due.due("nothing any more", x.things(0, 0, 1), 0);
        Due.due("count(0)", x.count(0), 0);
    }

    private static void rowEnds() {
        Due.sentence("ends (within a four, too)");
        for (int size = 0; size <= 9; size++) {
            Due.due("a row of " + size, withRow(new int[size]).things(0, 0, 8), size / 4);
        }
        for (int i = 0; i <= 9; i++) {
            Due.due("from " + i + " of 8", withRow(new int[8]).things(0, i, 8), i > 4 ? 0 : i > 0 ? 1 : 2);
        }
        Due.due("from far", withRow(new int[8]).things(0, Integer.MAX_VALUE, 8), 0);
        BackHouse x = withRow(new int[60]);
        Due.due("the last four of sixty", x.things(0, 56, 8), 1);
        Due.due("behind it", x.things(0, 57, 8), 0);
    }

    private static void rowWithOneThatMayNotBe() {
        Due.sentence("one is not as it may be, .. those ahead came");
        int[] most = {5, 12, 6, 99};
        for (int at = 0; at < 4; at++) {
            for (int v : new int[] {-1, most[at] + 1, 127, -128}) {
                int[] bytes = {1, 1, 1, 1, 2, 2, 2, 2, 0, 0, 0, 0, 3, 3, 3, 3};
                bytes[8 + at] = v;
                BackHouse x = withRow(bytes);
                Due.due(v + " at " + at, x.things(0, 0, 4), 2);
                Due.due("count(0)", x.count(0), 2);
                Due.due("of(1, WORTH)", x.of(1, WORTH), 2);
            }
            int[] bytes = new int[4];
            bytes[at] = most[at];
            Due.due("the most at " + at, withRow(bytes).things(0, 0, 1), 1);
        }
    }

    private static void rowWhereThingsAreFull() {
        Due.sentence("or THINGS are FULL: those ahead came");
        BackHouse x = withRow(new int[60]);
        x.thing(0, 0);
        x.thing(0, 0);
        Due.due("six of eight", x.things(0, 0, 8), 6);
        Due.due("count(0)", x.count(0), 8);
        Due.due("none any more", x.things(0, 0, 1), 0);
    }

    private static void rowIsNoRowOfBytes() {
        Due.sentence("-12 (no ROW of bytes");
        BackHouse x = new BackHouse();
        for (int sort = 1; sort <= 4; sort++) {
            x.row(sort, sort, 8);
            Due.due("sort " + sort, x.things(sort, 0, 1), -12);
        }
        x.keep(0, x.body(0));
        Due.due("a body", x.things(0, 0, 1), -12);
        Due.due("count(0)", x.count(0), 0);
    }

    private static void thingsIsBad() {
        Due.sentence("`int things(int shelf, int i, int n)`: .. BAD, -12");
        BackHouse x = new BackHouse();
        x.row(5, 1, 8);
        Due.due("shelf 6", x.things(6, 0, 1), BAD);
        Due.due("shelf -1", x.things(-1, 0, 1), BAD);
        Due.due("BAD is named first", x.things(5, 0, 9), BAD);
        Due.due("BAD, where nothing is", x.things(0, 0, 0), BAD);
        Due.due("shelf 5", x.things(5, 0, 8), -12);
    }

    private static void mendTellsWhatItWas() {
        Due.sentence("becomes v: what it was.");
        BackHouse x = Houses.withThings(309, 4);
        int[] atFirst = {3, 9, 4, 10, 0, 2, 3, 1};
        for (int what = WHOSE; what <= PRICE; what++) {
            Due.due("mend(0, " + what + ", 5)", x.mend(0, what, 5), atFirst[what]);
            Due.due("the same again", x.mend(0, what, 5), 5);
            Due.due("mend(0, " + what + ", 1)", x.mend(0, what, 1), 5);
            Due.due("of(0, " + what + ")", x.of(0, what), 1);
        }
    }

    private static void mendIsBad() {
        Due.sentence("`int mend(int number, int what, int v)`: .. BAD.");
        BackHouse x = Houses.withThings(0, 0);
        for (int what : new int[] {-1, 8, Integer.MAX_VALUE, Integer.MIN_VALUE}) {
            Due.due("mend(0, " + what + ", 1)", x.mend(0, what, 1), BAD);
        }
        for (int what = WHOSE; what <= PRICE; what++) {
            for (int v : new int[] {Integer.MAX_VALUE, Integer.MIN_VALUE, 256, -256}) {
                Due.due("mend(0, " + what + ", " + v + ")", x.mend(0, what, v), BAD);
            }
        }
        Due.due("no change came", x.count(2), 0);
    }

    private static void mendNumbers() {
        Due.sentence("of a THING, PACE (5) of a PERSON, WAY behind STOP n (6; 0 .. 5), PRICE (7; number 0)");
        int[] many = {3, 3, 3, 3, 3, 6, 6, 1};
        for (int what = WHOSE; what <= PRICE; what++) {
            BackHouse x = Houses.withThings(1, 1, 1, 1, 1, 1);
            for (int number = -1; number <= 8; number++) {
                boolean there = number >= 0 && number < many[what];
                Due.due("of(" + number + ", " + what + ")", x.of(number, what) >= 0 ? 1 : 0, there ? 1 : 0);
                Due.due("mend(" + number + ", " + what + ", 2)", x.mend(number, what, 2) >= 0 ? 1 : 0, there ? 1 : 0);
                Due.due("of(" + number + ", " + what + ") then", x.of(number, what), there ? 2 : BAD);
            }
        }
    }

    private static void ofIsBad() {
        Due.sentence("As of mend() (0 to 7). BAD.");
        BackHouse x = Houses.withThings(0, 0);
        for (int what : new int[] {-1, 8, Integer.MAX_VALUE, Integer.MIN_VALUE}) {
            Due.due("of(0, " + what + ")", x.of(0, what), BAD);
        }
        for (int what = WHOSE; what <= PRICE; what++) {
            Due.due("of(MAX, " + what + ")", x.of(Integer.MAX_VALUE, what), BAD);
            Due.due("of(MIN, " + what + ")", x.of(Integer.MIN_VALUE, what), BAD);
        }
    }

    private static void atMost512Calls() {
        Due.sentence("An object is used for at most 512 calls after it has been made");
        BackHouse x = new BackHouse();
        for (int call = 1; call <= 510; call++) {
            Due.due("call " + call, x.mend(0, WAY, 4 + call % 2), call == 1 ? 3 : 5 - call % 2);
        }
        Due.due("call 511", x.undo(), 39);
        Due.due("call 512", x.drive(0, 0), 20);
    }
}

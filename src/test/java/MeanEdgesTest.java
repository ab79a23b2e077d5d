/** Each sentence on means and draws that names an edge, in a test of its own: promises 10, 11, 14, 15 and 21. */
public final class MeanEdgesTest {
    private static final int CHANCE = 1, STOP = 2, WORTH = 3, SETS_OFF = 4, PACE = 5, PRICE = 7;
    private static final int FAR = Integer.MAX_VALUE, FAR_BELOW = Integer.MIN_VALUE;
    private static final long BAD = Long.MIN_VALUE;

    public static void main(String[] args) {
        meanOfNoThings();
        zeroByOne();
        lowestTerms();
        eachForItself();
        meanIsBad();
        likelyNever();
        likelyAlways();
        likelyNoGoing();
        likelyIsBad();
        doorstepOfAll();
        doorstepOfLikeOnes();
        doorstepOfNone();
        doorstepIsBad();
        listOfAtMost();
        listOfNone();
        readByTwelve();
        notReadAsEver();
        listFewer();
        listLeastNumber();
        listIsBad();
        drawsOf1To30();
        drawsWrap();
        aheadOfEachThing();
        belowItsChance();
        drawnInThought();
        withoutAnyGoing();
        drawnIsBad();
        Due.close();
    }

    private static void meanIs(BackHouse x, long above, long below) {
        Due.due("mean(0)", x.mean(0), above);
        Due.due("mean(1)", x.mean(1), below);
    }

    private static void likelyIs(BackHouse x, int thing, long above, long below) {
        Due.due("likely(" + thing + ", 0)", x.likely(thing, 0), above);
        Due.due("likely(" + thing + ", 1)", x.likely(thing, 1), below);
    }

    private static void doorstepIs(BackHouse x, int thing, long above, long below) {
        Due.due("doorstep(2)", x.doorstep(2), thing);
        Due.due("doorstep(0)", x.doorstep(0), above);
        Due.due("doorstep(1)", x.doorstep(1), below);
    }

    private static void listIs(BackHouse x, int most, int list, long above, long below) {
        Due.due("list(" + most + ", 2)", x.list(most, 2), list);
        Due.due("list(" + most + ", 0)", x.list(most, 0), above);
        Due.due("list(" + most + ", 1)", x.list(most, 1), below);
    }

    private static BackHouse eightOf(int chance, int stop) {
        BackHouse x = new BackHouse();
        for (int thing = 0; thing < 8; thing++) {
            x.thing(chance, stop);
        }
        return x;
    }

    private static void meanOfNoThings() {
        Due.sentence("MEAN of the COST over all sets of THINGS");
        BackHouse x = new BackHouse();
        meanIs(x, 18, 1);
        x.mend(0, PRICE, 9);
        meanIs(x, 162, 1);
    }

    private static void zeroByOne() {
        Due.sentence("a fraction in lowest terms (0 by 1)");
        BackHouse x = new BackHouse();
        x.mend(0, PRICE, 0);
        meanIs(x, 0, 1);
        x.thing(5, 0);
        meanIs(x, 0, 1);
        BackHouse eight = eightOf(7, 0);
        eight.mend(0, PRICE, 0);
        meanIs(eight, 0, 1);
        doorstepIs(eight, 0, 0, 1);
        listIs(eight, 3, 0, 0, 1);
    }

    private static void lowestTerms() {
        Due.sentence("in lowest terms");
        long[][] want = {{18, 1}, {73, 4}, {37, 2}, {75, 4}, {19, 1}, {77, 4}, {39, 2}, {79, 4}, {20, 1}, {81, 4}, {41, 2},
            {83, 4}, {21, 1}};
        for (int chance = 0; chance <= 12; chance++) {
            meanIs(Houses.withThings(chance, 0), want[chance][0], want[chance][1]);
        }
        BackHouse x = eightOf(5, 0);
        for (int thing = 0; thing < 8; thing++) {
            x.mend(thing, STOP, 6);
            x.mend(thing, WORTH, 0);
        }
        x.mend(0, WORTH, 37);
        Houses.law(x, "1");
        // Only 0 is worth the way: 36, a minute for it and for each other one: 18 + 5/12 * (37 + 7 * 5/12).
        meanIs(x, 18 * 144 + 5 * (37 * 12 + 35), 144);
    }

    private static void eachForItself() {
        Due.sentence("by CHANCES (each for itself)");
        BackHouse x = Houses.withThings(12, 0, 0, 0, 6, 6);
        x.mend(0, SETS_OFF, 4);
        meanIs(x, 45, 2);
        x.mend(1, CHANCE, 3);
        meanIs(x, 93, 4);
        x.mend(0, CHANCE, 4);
        // 1: 3 by 1/3, 1: 3 by 1/4; 2: 3 by 1/2 * 1/3, else left, 10 by 1/2 * 2/3.
        meanIs(x, 18 * 12 + 12 + 9 + 6 + 40, 12);
    }

    private static void meanIsBad() {
        Due.sentence("MEAN: part 0 above, 1 below the line. Long.MIN_VALUE: BAD.");
        BackHouse x = Houses.withThings(6, 0);
        for (int part : new int[] {-1, 2, FAR, FAR_BELOW}) {
            Due.due("mean(" + part + ")", x.mean(part), BAD);
        }
        meanIs(x, 39, 2);
    }

    private static void likelyNever() {
        Due.sentence("LIKELY: how likely a THING is LEFT; .. likewise");
        BackHouse x = Houses.withThings(12, 0, 0, 6, 6, 6);
        likelyIs(x, 0, 0, 1);
        likelyIs(x, 1, 0, 1);
        likelyIs(x, 2, 1, 2);
    }

    private static void likelyAlways() {
        Due.sentence("how likely a THING is LEFT");
        BackHouse x = eightOf(12, 6);
        x.mend(0, PRICE, 9);
        for (int thing = 0; thing < 8; thing++) {
            likelyIs(x, thing, 1, 1);
        }
        x.mend(7, CHANCE, 1);
        likelyIs(x, 7, 1, 12);
        x.mend(7, STOP, 0);
        likelyIs(x, 7, 0, 1);
    }

    private static void likelyNoGoing() {
        Due.sentence("how likely there is no GOING at all: likewise");
        likelyIs(new BackHouse(), -1, 1, 1);
        likelyIs(Houses.withThings(0, 0), -1, 1, 1);
        likelyIs(Houses.withThings(12, 0), -1, 0, 1);
        likelyIs(Houses.withThings(12, 6), -1, 1, 1);
        likelyIs(eightOf(1, 0), -1, 214358881, 429981696);
        likelyIs(eightOf(11, 0), -1, 1, 429981696);
        BackHouse left = eightOf(12, 6);
        left.mend(0, PRICE, 9);
        likelyIs(left, -1, 1, 1);
        left.mend(7, STOP, 0);
        likelyIs(left, -1, 0, 1);
    }

    private static void likelyIsBad() {
        Due.sentence("LIKELY of a THING (-1: no GOING at all): part likewise. Long.MIN_VALUE: BAD.");
        BackHouse x = new BackHouse();
        for (int things = 0; things <= 8; things++) {
            Due.due("likely(" + things + ", 0)", x.likely(things, 0), BAD);
            Due.due("likely(" + (things - 1) + ", 0)", x.likely(things - 1, 0), things == 0 ? 1 : 0);
            Due.due("likely(" + (things - 1) + ", 1)", x.likely(things - 1, 1), 1);
            x.thing(0, 0);
        }
        for (int v : new int[] {-2, FAR, FAR_BELOW}) {
            Due.due("likely(" + v + ", 0)", x.likely(v, 0), BAD);
            Due.due("likely(0, " + v + ")", x.likely(0, v), BAD);
            Due.due("likely(-1, " + v + ")", x.likely(-1, v), BAD);
        }
        Due.due("likely(0, 2)", x.likely(0, 2), BAD);
        Due.due("likely(0, -1)", x.likely(0, -1), BAD);
    }

    private static void doorstepOfAll() {
        Due.sentence("DOORSTEP: of all THINGS that which, never being forgotten, makes the MEAN least");
        for (int thing = 0; thing < 8; thing++) {
            BackHouse x = eightOf(6, 0);
            x.mend(thing, CHANCE, 7);
            doorstepIs(x, thing, 57, 2);
        }
        BackHouse x = Houses.withThings(12, 0, 3, 0);
        x.mend(0, SETS_OFF, 2);
        doorstepIs(x, 0, 75, 4);
        // 0 and 1 together are worth the way and 60 minutes each; 2 is gone for in 60, too, and more often.
        BackHouse pair = Houses.withThings(7, 6, 7, 6, 9, 0);
        pair.mend(0, WORTH, 19);
        pair.mend(1, WORTH, 19);
        Houses.law(pair, "60");
        doorstepIs(pair, 0, 889, 12);
    }

    private static void doorstepOfLikeOnes() {
        Due.sentence("(of like ones the least number; NOT: there are none)");
        doorstepIs(eightOf(4, 0), 0, 25, 1);
        doorstepIs(eightOf(0, 0), 0, 18, 1);
        BackHouse x = eightOf(4, 0);
        x.mend(5, CHANCE, 5);
        x.mend(6, CHANCE, 5);
        // 1/3 of 3 minutes for six, 5/12 for one.
        doorstepIs(x, 5, 101, 4);
    }

    private static void doorstepOfNone() {
        Due.sentence("NOT: there are none");
        BackHouse x = new BackHouse();
        doorstepIs(x, BackHouse.NOT, BackHouse.NOT, BackHouse.NOT);
        x.thing(12, 0);
        doorstepIs(x, 0, 18, 1);
    }

    private static void doorstepIsBad() {
        Due.sentence("DOORSTEP: the THING (part 2), that MEAN (part 0, 1). Long.MIN_VALUE: BAD; NOT.");
        for (int part : new int[] {-1, 3, FAR, FAR_BELOW}) {
            Due.due("doorstep(" + part + ")", Houses.withThings(6, 0).doorstep(part), BAD);
            Due.due("BAD is named first: doorstep(" + part + ")", new BackHouse().doorstep(part), BAD);
        }
    }

    private static void listOfAtMost() {
        Due.sentence("LIST: of at most L THINGS (0 .. 3)");
        BackHouse x = eightOf(12, 0);
        listIs(x, 0, 0, 42, 1);
        listIs(x, 1, 1, 157, 4);
        listIs(x, 2, 3, 37, 1);
        listIs(x, 3, 7, 141, 4);
        BackHouse one = Houses.withThings(12, 0);
        for (int most = 1; most <= 3; most++) {
            listIs(one, most, 1, 73, 4);
        }
    }

    private static void listOfNone() {
        Due.sentence("the list by which the MEAN is least (bits");
        listIs(new BackHouse(), 0, 0, 18, 1);
        listIs(new BackHouse(), 3, 0, 18, 1);
        listIs(Houses.withThings(6, 0), 0, 0, 39, 2);
        listIs(Houses.withThings(0, 0, 0, 6), 3, 0, 18, 1);
    }

    private static void readByTwelve() {
        Due.sentence("each on it is read with the chance of 12 less how many are on it by twelve");
        // Forgotten for sure and not read: 1 of 12, 2 of 12, 3 of 12, of 12 minutes each.
        for (int many = 1; many <= 3; many++) {
            BackHouse x = new BackHouse();
            for (int thing = 0; thing < many; thing++) {
                x.thing(12, 0);
            }
            Houses.law(x, "12");
            listIs(x, 3, (1 << many) - 1, 18 + many * many, 1);
        }
    }

    private static void notReadAsEver() {
        Due.sentence("then it is not forgotten, else as ever");
        BackHouse x = Houses.withThings(6, 0);
        Houses.law(x, "48");
        listIs(x, 1, 1, 20, 1);
        x.mend(0, CHANCE, 1);
        listIs(x, 1, 1, 55, 3);
        x.thing(6, 0);
        // The one that is not on it as ever, 24; the one on it 2 of 12 times 6 of 12; both: 2/12 * 7/12 of 48.
        listIs(x, 1, 2, 24, 1);
        listIs(x, 2, 3, 68, 3);
    }

    private static void listFewer() {
        Due.sentence("of like ones fewer");
        BackHouse x = Houses.withThings(1, 0, 10, 0);
        listIs(x, 1, 2, 443, 24);
        listIs(x, 2, 2, 443, 24);
        BackHouse three = Houses.withThings(4, 0, 5, 0, 1, 0);
        listIs(three, 2, 3, 149, 8);
        listIs(three, 3, 3, 149, 8);
        BackHouse none = Houses.withThings(0, 0, 6, 0, 0, 0);
        listIs(none, 3, 2, 145, 8);
    }

    private static void listLeastNumber() {
        Due.sentence("then the least number");
        BackHouse x = eightOf(6, 0);
        listIs(x, 1, 1, 30 * 8 - 11, 8);
        x.mend(0, CHANCE, 0);
        x.mend(3, CHANCE, 0);
        Due.due("list(1, 2)", x.list(1, 2), 2);
        Due.due("list(2, 2)", x.list(2, 2), 6);
        Due.due("list(3, 2)", x.list(3, 2), 2 + 4 + 16);
    }

    private static void listIsBad() {
        Due.sentence("LIST of at most L: the list (part 2), that MEAN (part 0, 1). Long.MIN_VALUE: BAD.");
        for (BackHouse x : new BackHouse[] {new BackHouse(), Houses.withThings(6, 0)}) {
            for (int v : new int[] {-1, 4, FAR, FAR_BELOW}) {
                Due.due("list(" + v + ", 2)", x.list(v, 2), BAD);
                Due.due("list(0, " + v + ")", x.list(0, v), BAD);
            }
            Due.due("list(0, 3)", x.list(0, 3), BAD);
        }
    }

    /** The costs of n drives of things that cost 3 each at the house. */
    private static int drawnCosts(int seed, int n, int... chances) {
        int z = seed;
        int costs = 0;
        for (int drive = 0; drive < n; drive++) {
            costs += 18;
            for (int chance : chances) {
                z = z * 1103515245 + 12345;
                costs += (z >>> 8) % 12 < chance ? 3 : 0;
            }
        }
        return costs;
    }

    private static void drawsOf1To30() {
        Due.sentence("DRAWN: n DRIVES (1 .. 30) by a SEED");
        BackHouse x = Houses.withThings(6, 0, 4, 0, 9, 0);
        for (int n = 1; n <= 30; n++) {
            Due.due("drawn(9, " + n + ", 0)", x.drawn(9, n, 0), drawnCosts(9, n, 6, 4, 9));
        }
        for (int n : new int[] {0, 31, -1, FAR, FAR_BELOW}) {
            Due.due("drawn(9, " + n + ", 0)", x.drawn(9, n, 0), BackHouse.BAD);
        }
    }

    private static void drawsWrap() {
        Due.sentence("z = z * 1103515245 + 12345 (an int; SEED at first)");
        BackHouse x = Houses.withThings(6, 0, 6, 0, 6, 0, 6, 0);
        for (int seed : new int[] {0, 1, -1, FAR, FAR_BELOW, 1103515245, -1103515245, 1 << 30, 7, -7, 255, 256}) {
            Due.due("drawn(" + seed + ", 5, 0)", x.drawn(seed, 5, 0), drawnCosts(seed, 5, 6, 6, 6, 6));
            Due.due("drawn(" + seed + ", 30, 0)", x.drawn(seed, 30, 0), drawnCosts(seed, 30, 6, 6, 6, 6));
        }
    }

    private static void aheadOfEachThing() {
        Due.sentence("ahead of each THING, by numbers");
        BackHouse x = Houses.withThings(0, 0, 12, 0, 6, 0);
        for (int seed = 0; seed < 12; seed++) {
            Due.due("drawn(" + seed + ", 1, 0)", x.drawn(seed, 1, 0), drawnCosts(seed, 1, 0, 12, 6));
        }
        x.mend(1, CHANCE, 3);
        for (int seed = 0; seed < 12; seed++) {
            Due.due("drawn(" + seed + ", 2, 0)", x.drawn(seed, 2, 0), drawnCosts(seed, 2, 0, 3, 6));
        }
    }

    private static void belowItsChance() {
        Due.sentence("it is forgotten, if (z >>> 8) % 12 is below its CHANCE");
        for (int seed = -20; seed < 20; seed++) {
            int draw = (seed * 1103515245 + 12345 >>> 8) % 12;
            for (int chance = 0; chance <= 12; chance++) {
                BackHouse x = Houses.withThings(chance, 0);
                Due.due("drawn(" + seed + ", 1, 0) by " + chance, x.drawn(seed, 1, 0), draw < chance ? 21 : 18);
                Due.due("drawn(" + seed + ", 1, 1) by " + chance, x.drawn(seed, 1, 1), draw < chance ? 0 : 1);
            }
        }
    }

    private static void drawnInThought() {
        Due.sentence("DRAWN: n DRIVES (1 .. 30) by a SEED, in thought");
        BackHouse x = Houses.withThings(12, 0);
        x.drawn(1, 30, 0);
        Due.due("no drive is on", x.led(6), BackHouse.NOT);
        Due.due("none was over", x.led(4), 0);
        x.lock(1);
        x.on();
        x.drawn(1, 30, 0);
        Due.due("the drive that is on stays where it is", x.led(6), 1);
        Due.due("and its minutes", x.led(0), 6);
        Due.due("the same draws again", x.drawn(1, 30, 0), 630);
    }

    private static void withoutAnyGoing() {
        Due.sentence("all COSTS together; how many without any GOING");
        BackHouse none = new BackHouse();
        Due.due("no things: costs", none.drawn(3, 30, 0), 540);
        Due.due("no things: without", none.drawn(3, 30, 1), 30);
        BackHouse left = Houses.withThings(12, 6);
        Due.due("left: costs", left.drawn(3, 30, 0), 30 * 28);
        Due.due("left: without", left.drawn(3, 30, 1), 30);
        BackHouse gone = Houses.withThings(12, 0, 12, 6);
        Due.due("gone for: without", gone.drawn(3, 30, 1), 0);
        gone.mend(0, PRICE, 0);
        Due.due("for nothing", gone.drawn(3, 30, 0), 0);
        gone.mend(0, PRICE, 2);
        gone.mend(0, PACE, 9);
        Due.due("by the price", gone.drawn(3, 30, 0), 30 * (2 * 28 + 10));
    }

    private static void drawnIsBad() {
        Due.sentence("DRAWN: COSTS (what 0), without any GOING (1). BAD.");
        BackHouse x = Houses.withThings(6, 0);
        for (int what : new int[] {-1, 2, FAR, FAR_BELOW}) {
            Due.due("drawn(1, 1, " + what + ")", x.drawn(1, 1, what), BackHouse.BAD);
        }
    }
}

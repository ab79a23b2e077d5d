/** Each sentence on one drive that names an edge, in a test of its own: promises 8, 9, 12, 13, 16, 19 and 20. */
public final class DriveEdgesTest {
    private static final int STOP = 2, WORTH = 3, SETS_OFF = 4, PACE = 5, WAY = 6, PRICE = 7;
    private static final int MINUTES = 0, BACK = 1, TURNS = 2, LEFT = 3, COST = 4;
    private static final int BAD = BackHouse.BAD, NOT = BackHouse.NOT;
    private static final int FAR = Integer.MAX_VALUE, FAR_BELOW = Integer.MIN_VALUE;

    public static void main(String[] args) {
        toldThingsThatAreThere();
        driveIsBad();
        nothingForgotten();
        byNumbers();
        theLeastThatHasComeToMind();
        whateverTheirStop();
        onlyThoseForgotten();
        notHadYet();
        moreThanTheWay();
        allWorthThere();
        byThePrice();
        drivesToItAgain();
        leftSetsNothingOff();
        leftComesNotAgain();
        behindStop6();
        whatNeverComesToMind();
        minutes();
        back();
        turns();
        cost();
        kthGoing();
        goingIsBad();
        notAsMany();
        aloudOfNone();
        aloudSetsNothingOff();
        aloudIsMinutes();
        aloudIsBad();
        whoOfLikeOnes();
        whoIsBad();
        onWithNone();
        onWithTheLast();
        onWithIsBad();
        firstIsNotTheEmptyOne();
        firstOfLikeOnes();
        firstOfNoThings();
        firstIsBad();
        chainItself();
        chainOfAllThings();
        chainAtLast();
        chainIsBad();
        Due.close();
    }

    private static void toldThingsThatAreThere() {
        Due.sentence("told THINGS as bits; of THINGS that are there");
        BackHouse x = new BackHouse();
        for (int things = 0; things <= 8; things++) {
            int all = (1 << things) - 1;
            for (int told : new int[] {all, all + 1, -1, 1 << 8, FAR, FAR_BELOW, FAR_BELOW + all}) {
                boolean there = told == all;
                Due.due("drive(" + told + ", TURNS)", x.drive(told, TURNS), there ? 0 : BAD);
                Due.due("going(" + told + ", 8, 0)", x.going(told, 8, 0), there ? NOT : BAD);
                Due.due("aloud(" + told + ", 0)", x.aloud(told, 0), there ? 18 + things + (things > 0 ? 2 : 0) : BAD);
                Due.due("who(" + told + ")", x.who(told), there ? 0 : BAD);
                Due.due("onWith(" + told + ")", x.onWith(told), there ? 0 : BAD);
            }
            x.thing(0, 0);
        }
    }

    private static void driveIsBad() {
        Due.sentence("MINUTES (what 0), BACK (1), TURNS (2), LEFT (3), COST (4). BAD.");
        BackHouse x = Houses.withThings(0, 0);
        for (int what : new int[] {-1, 5, FAR, FAR_BELOW}) {
            Due.due("drive(1, " + what + ")", x.drive(1, what), BAD);
            Due.due("drive(0, " + what + ")", x.drive(0, what), BAD);
        }
        driveIs(x, 1, 21, 1, 0, 0, 21);
    }

    private static void driveIs(BackHouse x, int told, int... want) {
        for (int what = MINUTES; what <= COST; what++) {
            Due.due("drive(" + told + ", " + what + ")", x.drive(told, what), want[what]);
        }
    }

    private static void goingsAre(BackHouse x, int told, int... things) {
        for (int k = 0; k < things.length; k++) {
            Due.due("going(" + told + ", " + k + ", 1)", x.going(told, k, 1), things[k]);
        }
        Due.due("going(" + told + ", " + things.length + ", 1)", x.going(told, things.length, 1), NOT);
    }

    private static void nothingForgotten() {
        Due.sentence("A DRIVE with told THINGS forgotten (bits)");
        driveIs(new BackHouse(), 0, 18, 0, 0, 0, 18);
        driveIs(Houses.withThings(12, 0, 12, 6), 0, 18, 0, 0, 0, 18);
        driveIs(Houses.withThings(0, 0, 0, 6), 3, 21, 1, 0, 2, 31);
    }

    private static void byNumbers() {
        Due.sentence("one after the other by numbers, each by whose it is");
        BackHouse x = Houses.withThings(500, 0, 400, 0, 300, 0, 200, 0, 100, 0, 0, 0, 500, 0, 400, 0);
        goingsAre(x, 255, 0, 1, 2, 3, 4, 5, 6, 7);
        goingsAre(x, 0xAA, 1, 3, 5, 7);
        int[] whose = {5, 4, 3, 2, 1, 0, 5, 4};
        for (int k = 0; k < 8; k++) {
            Due.due("going(255, " + k + ", 0)", x.going(255, k, 0), whose[k]);
        }
    }

    private static void theLeastThatHasComeToMind() {
        Due.sentence("always the least number of those that have come to mind");
        BackHouse x = Houses.withThings(0, 6, 0, 6, 0, 0, 0, 0, 0, 6, 0, 0);
        x.mend(2, SETS_OFF, 1 << 1 | 1 << 4);
        x.mend(1, SETS_OFF, 1 << 0);
        goingsAre(x, 63, 2, 1, 0, 3, 4, 5);
    }

    private static void whateverTheirStop() {
        Due.sentence("come to mind, too (whatever their STOP)");
        for (int stop = 0; stop <= 6; stop++) {
            BackHouse x = Houses.withThings(0, 0, 0, stop);
            x.mend(0, SETS_OFF, 2);
            goingsAre(x, 3, 0, 1);
            driveIs(x, 3, 24, 2, 0, 0, 24);
        }
    }

    private static void onlyThoseForgotten() {
        Due.sentence("those forgotten, not had yet, that it SETS OFF");
        BackHouse x = Houses.withThings(0, 0, 0, 6, 0, 6);
        x.mend(0, SETS_OFF, 255);
        goingsAre(x, 5, 0, 2);
        goingsAre(x, 3, 0, 1);
        goingsAre(x, 1, 0);
        x.mend(0, SETS_OFF, 2);
        x.mend(1, SETS_OFF, 4);
        goingsAre(x, 5, 0);
    }

    private static void notHadYet() {
        Due.sentence("whose STOP it is and that are not had yet");
        BackHouse x = Houses.withThings(0, 0, 0, 3);
        x.mend(1, WORTH, 99);
        x.mend(0, SETS_OFF, 2);
        x.mend(1, SETS_OFF, 1);
        goingsAre(x, 3, 0, 1);
        driveIs(x, 3, 24, 2, 0, 0, 24);
        goingsAre(x, 2, 1);
        driveIs(x, 2, 18 + 18 + 3, 1, 1, 0, 39);
    }

    private static void moreThanTheWay() {
        Due.sentence("is more than PRICE times twice the minutes from STOP 0 to s");
        for (int stop = 1; stop <= 6; stop++) {
            BackHouse x = Houses.withThings(0, stop);
            x.mend(0, WORTH, 6 * stop - 1);
            driveIs(x, 1, 18, 0, 0, 1, 18 + 6 * stop - 1);
            x.mend(0, WORTH, 6 * stop);
            driveIs(x, 1, 18, 0, 0, 1, 18 + 6 * stop);
            x.mend(0, WORTH, 6 * stop + 1);
            driveIs(x, 1, 18 + 6 * stop + 3, 1, 1, 0, 18 + 6 * stop + 3);
        }
    }

    private static void allWorthThere() {
        Due.sentence("if all WORTH of those that come to mind there");
        BackHouse x = Houses.withThings(0, 2, 0, 2, 0, 2, 0, 0, 0, 3);
        x.mend(0, WORTH, 4);
        x.mend(1, WORTH, 4);
        x.mend(2, WORTH, 5);
        x.mend(4, WORTH, 0);
        Due.due("4 and 4", x.drive(3, LEFT), 3);
        Due.due("4 and 5", x.drive(5, LEFT), 5);
        Due.due("4, 4 and 5", x.drive(7, LEFT), 0);
        Due.due("another stop's does not count", x.drive(16 + 3, LEFT), 16 + 3);
        x.mend(3, SETS_OFF, 1);
        Due.due("what is had does not count", x.drive(8 + 7, LEFT), 6);
        x.mend(3, SETS_OFF, 0);
        Due.due("all three again", x.drive(8 + 7, LEFT), 0);
    }

    private static void byThePrice() {
        Due.sentence("more than PRICE times twice");
        for (int price = 0; price <= 9; price++) {
            BackHouse x = Houses.withThings(0, 1);
            x.mend(0, PRICE, price);
            x.mend(0, WORTH, 6 * price);
            Due.due("as much by " + price, x.drive(1, TURNS), 0);
            x.mend(0, WORTH, 6 * price + 1);
            Due.due("more by " + price, x.drive(1, TURNS), 1);
        }
    }

    private static void drivesToItAgain() {
        Due.sentence("one drives back, they are gone for as at STOP 0, and drives to s again");
        BackHouse x = Houses.withThings(100, 3, 200, 3, 300, 6, 400, 5);
        for (int way = 0; way < 6; way++) {
            x.mend(way, WAY, way + 1);
        }
        x.mend(1, PACE, 9);
        x.mend(0, WORTH, 99);
        x.mend(0, SETS_OFF, 4);
        x.mend(3, WORTH, 31);
        driveIs(x, 7, 21 + 12 + 10 + 3 + 3, 3, 1, 0, 49);
        goingsAre(x, 7, 0, 1, 2);
        driveIs(x, 15, 49 + 30 + 3, 4, 2, 0, 82);
    }

    private static void leftSetsNothingOff() {
        Due.sentence("what is LEFT sets nothing off, and is not had");
        BackHouse x = Houses.withThings(0, 1, 0, 3);
        x.mend(0, WORTH, 6);
        x.mend(0, SETS_OFF, 2);
        driveIs(x, 3, 18, 0, 0, 3, 34);
        x.mend(0, WORTH, 7);
        driveIs(x, 3, 18 + 6 + 6, 2, 1, 0, 30);
    }

    private static void leftComesNotAgain() {
        Due.sentence("nor comes again");
        BackHouse x = Houses.withThings(0, 1, 0, 3);
        x.mend(0, WORTH, 6);
        x.mend(1, WORTH, 99);
        x.mend(1, SETS_OFF, 1);
        driveIs(x, 3, 18 + 18 + 3, 1, 1, 1, 39 + 6);
        goingsAre(x, 3, 1);
    }

    private static void behindStop6() {
        Due.sentence("It ends behind STOP 6.");
        BackHouse x = Houses.withThings(0, 6);
        x.mend(0, WORTH, 37);
        driveIs(x, 1, 18 + 36 + 3, 1, 1, 0, 57);
        x.mend(0, WORTH, 36);
        driveIs(x, 1, 18, 0, 0, 1, 54);
    }

    private static void whatNeverComesToMind() {
        Due.sentence("LEFT: bits (what never comes to mind is none: all do at last)");
        BackHouse x = Houses.withThings(0, 1, 0, 2, 0, 3, 0, 4, 0, 5, 0, 6, 0, 0);
        x.mend(0, PRICE, 9);
        Due.due("all but the one at the house", x.drive(127, LEFT), 63);
        Due.due("those told alone", x.drive(0x55, LEFT), 0x15);
        Due.due("none told", x.drive(0, LEFT), 0);
    }

    private static void minutes() {
        Due.sentence("MINUTES: all ways and GOINGS.");
        BackHouse x = Houses.withThings(0, 0, 0, 0, 0, 0, 0, 0, 0, 0, 0, 0, 0, 0, 0, 6);
        for (int way = 0; way < 6; way++) {
            x.mend(way, WAY, 20);
        }
        Houses.law(x, "60");
        x.mend(7, WORTH, 99);
        x.mend(0, PRICE, 0);
        driveIs(x, 255, 120 + 240 + 480, 8, 1, 0, 0);
        x.mend(0, PRICE, 9);
        driveIs(x, 255, 120 + 420, 7, 0, 128, 540 * 9 + 99);
    }

    private static void back() {
        Due.sentence("BACK: how many GOINGS.");
        BackHouse x = Houses.withThings(0, 0, 0, 0, 0, 0, 0, 0, 0, 0, 0, 0, 0, 0, 0, 0);
        for (int told = 0; told < 256; told++) {
            Due.due("drive(" + told + ", BACK)", x.drive(told, BACK), Integer.bitCount(told));
        }
    }

    private static void turns() {
        Due.sentence("TURNS: how often one drove back.");
        BackHouse x = Houses.withThings(0, 0, 0, 1, 0, 2, 0, 3, 0, 4, 0, 5, 0, 6, 0, 6);
        for (int thing = 0; thing < 8; thing++) {
            x.mend(thing, WORTH, 99);
        }
        Due.due("at six stops", x.drive(255, TURNS), 6);
        Due.due("at the house", x.drive(1, TURNS), 0);
        Due.due("once for two", x.drive(0xC0, TURNS), 1);
    }

    private static void cost() {
        Due.sentence("COST: PRICE times MINUTES, and WORTH of all LEFT.");
        BackHouse x = Houses.withThings(0, 6, 0, 6);
        x.mend(1, WORTH, 7);
        for (int price = 1; price <= 9; price++) {
            x.mend(0, PRICE, price);
            Due.due("none by " + price, x.drive(0, COST), 18 * price);
            Due.due("both by " + price, x.drive(3, COST), 18 * price + 17);
        }
        x.mend(0, PRICE, 0);
        x.mend(0, WORTH, 0);
        x.mend(1, WORTH, 0);
        driveIs(x, 3, 18, 0, 0, 3, 0);
    }

    private static void kthGoing() {
        Due.sentence("The k-th GOING of it (0 on): who (what 0), the THING (1), its minutes (2).");
        BackHouse x = Houses.withThings(300, 0, 500, 4);
        x.mend(5, PACE, 8);
        x.mend(1, WORTH, 99);
        int[][] want = {{3, 0, 3}, {5, 1, 9}};
        for (int k = 0; k < 2; k++) {
            for (int what = 0; what < 3; what++) {
                Due.due("going(3, " + k + ", " + what + ")", x.going(3, k, what), want[k][what]);
            }
        }
    }

    private static void goingIsBad() {
        Due.sentence("`int going(int told, int k, int what)`: .. BAD");
        BackHouse x = Houses.withThings(0, 0);
        for (int v : new int[] {-1, FAR_BELOW}) {
            Due.due("going(1, " + v + ", 0)", x.going(1, v, 0), BAD);
            Due.due("going(1, 0, " + v + ")", x.going(1, 0, v), BAD);
        }
        Due.due("going(1, 0, 3)", x.going(1, 0, 3), BAD);
        Due.due("BAD is named first: going(1, 1, 3)", x.going(1, 1, 3), BAD);
        Due.due("BAD is named first: going(2, 1, 0)", x.going(2, 1, 0), BAD);
    }

    private static void notAsMany() {
        Due.sentence("NOT: there are not as many.");
        BackHouse x = Houses.withThings(0, 0, 0, 0, 0, 0, 0, 0, 0, 0, 0, 0, 0, 0, 0, 0);
        for (int told = 0, many = 0; many <= 8; many++, told = 2 * told + 1) {
            for (int k = 0; k <= 9; k++) {
                Due.due("going(" + told + ", " + k + ", 1)", x.going(told, k, 1), k < many ? k : NOT);
            }
            Due.due("going(" + told + ", MAX, 1)", x.going(told, FAR, 1), NOT);
        }
        x.mend(7, STOP, 6);
        Due.due("what is left is no going", x.going(128, 0, 0), NOT);
    }

    private static void aloudOfNone() {
        Due.sentence("(none: nobody goes)");
        BackHouse x = Houses.withThings(12, 0);
        Houses.law(x, "50");
        for (int person = 0; person < 6; person++) {
            Due.due("aloud(0, " + person + ")", x.aloud(0, person), 18);
            Due.due("aloud(1, " + person + ")", x.aloud(1, person), 68);
        }
    }

    private static void aloudSetsNothingOff() {
        Due.sentence("nothing is set off; then the DRIVE");
        BackHouse x = Houses.withThings(0, 0, 0, 6, 0, 3);
        x.mend(0, SETS_OFF, 255);
        x.mend(1, WORTH, 99);
        Due.due("aloud(1, 0)", x.aloud(1, 0), 18 + 3);
        Due.due("aloud(7, 0)", x.aloud(7, 0), 18 + 5);
        Due.due("aloud(6, 0)", x.aloud(6, 0), 18 + 4);
        Due.due("the drive itself", x.drive(2, MINUTES), 57);
    }

    private static void aloudIsMinutes() {
        Due.sentence("then the DRIVE: MINUTES.");
        BackHouse x = Houses.withThings(100, 6);
        x.mend(0, PRICE, 9);
        x.mend(3, WAY, 20);
        x.mend(1, PACE, 9);
        x.mend(4, PACE, 6);
        Due.due("aloud(1, 4)", x.aloud(1, 4), 35 + 7);
        Due.due("aloud(1, 1)", x.aloud(1, 1), 35 + 10);
    }

    private static void aloudIsBad() {
        Due.sentence("ALOUD by a PERSON. BAD.");
        BackHouse x = Houses.withThings(0, 0);
        for (int person : new int[] {-1, 6, FAR, FAR_BELOW}) {
            Due.due("aloud(1, " + person + ")", x.aloud(1, person), BAD);
            Due.due("aloud(0, " + person + ")", x.aloud(0, person), BAD);
        }
        Due.due("aloud(2, 0)", x.aloud(2, 0), BAD);
        Due.due("aloud(-1, 0)", x.aloud(-1, 0), BAD);
    }

    private static void whoOfLikeOnes() {
        Due.sentence("WHO: the PERSON by whom that is least (of like ones the least number).");
        for (int person = 0; person < 6; person++) {
            BackHouse x = Houses.withThings(0, 3);
            x.mend(5, PACE, 1);
            x.mend(person, PACE, 1);
            Due.due("who(1)", x.who(1), person);
            Due.due("nobody goes: who(0)", x.who(0), 0);
        }
        BackHouse x = Houses.withThings(0, 3);
        Due.due("all are alike", x.who(1), 0);
        x.mend(0, PACE, 3);
        Due.due("all but 0 are alike", x.who(1), 1);
        Houses.law(x, "p>2?5;70");
        Due.due("by the law", x.who(1), 0);
        Houses.law(x, "p+60");
        Due.due("held alike", x.who(1), 0);
    }

    private static void whoIsBad() {
        Due.sentence("WHO. BAD.");
        BackHouse x = Houses.withThings(0, 0);
        Due.due("who(2)", x.who(2), BAD);
        Due.due("who(-1)", x.who(-1), BAD);
        Due.due("who(1)", x.who(1), 0);
    }

    private static void onWithNone() {
        Due.sentence("the last STOP at which one turns back (0: none; a GOING at STOP 0 is none)");
        BackHouse x = Houses.withThings(0, 0, 0, 6);
        Due.due("onWith(0)", x.onWith(0), 0);
        Due.due("a going at STOP 0", x.onWith(1), 0);
        Due.due("left", x.onWith(2), 0);
        x.mend(0, SETS_OFF, 2);
        x.mend(1, WORTH, 99);
        Due.due("set off at STOP 0", x.onWith(3), 0);
        Due.due("alone", x.onWith(2), 6);
        Due.due("and then both", x.onWith(3), 0);
        Due.due("and then none", x.onWith(0), 0);
    }

    private static void onWithTheLast() {
        Due.sentence("the last STOP at which one turns back");
        BackHouse x = Houses.withThings(0, 1, 0, 2, 0, 3, 0, 4, 0, 5, 0, 6);
        for (int thing = 0; thing < 6; thing++) {
            x.mend(thing, WORTH, 99);
        }
        for (int told = 1; told < 64; told++) {
            Due.due("onWith(" + told + ")", x.onWith(told), 32 - Integer.numberOfLeadingZeros(told));
        }
        x.mend(5, WORTH, 36);
        Due.due("behind it one is left", x.onWith(63), 5);
    }

    private static void onWithIsBad() {
        Due.sentence("ON WITH. BAD.");
        BackHouse x = Houses.withThings(0, 0);
        Due.due("onWith(2)", x.onWith(2), BAD);
        Due.due("onWith(-1)", x.onWith(-1), BAD);
    }

    private static void firstIs(BackHouse x, int set, int cost) {
        Due.due("first(0)", x.first(0), set);
        Due.due("first(1)", x.first(1), cost);
    }

    private static void firstIsNotTheEmptyOne() {
        Due.sentence("FIRST: of all sets of THINGS (but the empty one) that with the greatest COST");
        BackHouse x = Houses.withThings(0, 6);
        x.mend(0, WORTH, 0);
        firstIs(x, 1, 18);
        x.mend(0, PRICE, 0);
        firstIs(x, 1, 0);
        x.mend(0, WORTH, 1);
        firstIs(x, 1, 0);
        BackHouse eight = Houses.withThings(0, 0, 0, 0, 0, 0, 0, 0, 0, 0, 0, 0, 0, 0, 0, 0);
        firstIs(eight, 255, 42);
    }

    private static void firstOfLikeOnes() {
        Due.sentence("(of like ones the least number): it; its COST");
        BackHouse x = Houses.withThings(0, 0, 0, 6, 0, 6);
        x.mend(0, PRICE, 0);
        firstIs(x, 1, 0);
        x.mend(0, PRICE, 1);
        x.mend(1, WORTH, 0);
        firstIs(x, 5, 31);
        x.mend(2, WORTH, 0);
        firstIs(x, 1, 21);
        x.mend(2, WORTH, 99);
        x.mend(0, SETS_OFF, 4);
        firstIs(x, 6, 60);
    }

    private static void firstOfNoThings() {
        Due.sentence("the set (what 0; NOT: no THINGS), its COST (1; NOT)");
        BackHouse x = new BackHouse();
        firstIs(x, NOT, NOT);
        x.thing(0, 0);
        firstIs(x, 1, 21);
    }

    private static void firstIsBad() {
        Due.sentence("FIRST: .. BAD.");
        for (int what : new int[] {-1, 2, FAR, FAR_BELOW}) {
            Due.due("first(" + what + ")", Houses.withThings(0, 0).first(what), BAD);
            Due.due("BAD is named first: first(" + what + ")", new BackHouse().first(what), BAD);
        }
    }

    private static void chainItself() {
        Due.sentence("can bring at last (itself too");
        BackHouse x = Houses.withThings(0, 0, 0, 0);
        Due.due("chain(0)", x.chain(0), 1);
        x.mend(0, SETS_OFF, 1);
        Due.due("itself once", x.chain(0), 1);
        x.mend(0, SETS_OFF, 2);
        x.mend(1, SETS_OFF, 1);
        Due.due("round", x.chain(0), 2);
        Due.due("round", x.chain(1), 2);
    }

    private static void chainOfAllThings() {
        Due.sentence("of all THINGS");
        BackHouse x = Houses.withThings(0, 0);
        x.mend(0, SETS_OFF, 255);
        for (int things = 1; things <= 8; things++) {
            Due.due("of " + things, x.chain(0), things);
            x.thing(0, 6);
        }
    }

    private static void chainAtLast() {
        Due.sentence("by SETS OFF how many THINGS one GOING for a THING can bring at last");
        BackHouse up = Houses.withThings(0, 0, 0, 0, 0, 0, 0, 0, 0, 0, 0, 0, 0, 0, 0, 0);
        BackHouse down = Houses.withThings(0, 0, 0, 0, 0, 0, 0, 0, 0, 0, 0, 0, 0, 0, 0, 0);
        for (int thing = 0; thing < 7; thing++) {
            up.mend(thing, SETS_OFF, 2 << thing);
            down.mend(thing + 1, SETS_OFF, 1 << thing);
        }
        for (int thing = 0; thing < 8; thing++) {
            Due.due("up: chain(" + thing + ")", up.chain(thing), 8 - thing);
            Due.due("down: chain(" + thing + ")", down.chain(thing), thing + 1);
        }
    }

    private static void chainIsBad() {
        Due.sentence("CHAIN of a THING. BAD.");
        BackHouse x = new BackHouse();
        Due.due("chain(0) without things", x.chain(0), BAD);
        for (int things = 1; things <= 8; things++) {
            x.thing(0, 0);
            Due.due("chain(" + things + ")", x.chain(things), BAD);
            Due.due("chain(" + (things - 1) + ")", x.chain(things - 1), 1);
        }
        Due.due("chain(-1)", x.chain(-1), BAD);
        Due.due("chain(MAX)", x.chain(FAR), BAD);
        Due.due("chain(MIN)", x.chain(FAR_BELOW), BAD);
    }
}

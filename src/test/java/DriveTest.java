/** Promises 8, 9, 12, 13, 16, 19, 20: drive, going, aloud, who, onWith, first, chain. */
public final class DriveTest {
    private static final int STOP = 2, WORTH = 3, SETS_OFF = 4, PACE = 5, WAY = 6, PRICE = 7;
    private static final int MINUTES = 0, BACK = 1, TURNS = 2, LEFT = 3, COST = 4;

    public static void main(String[] args) {
        atTheHouse();
        byNumbers();
        turningBack();
        leftForGood();
        setOffFromAfar();
        pricesAndWays();
        goingIsToldWhole();
        refusals();
        aloud();
        who();
        onWith();
        first();
        chain();
        Due.close();
    }

    private static void driveIs(String of, BackHouse x, int told, int... want) {
        for (int what = MINUTES; what <= COST; what++) {
            Due.due(of + ": drive(" + told + ", " + what + ")", x.drive(told, what), want[what]);
        }
    }

    private static void goingsAre(String of, BackHouse x, int told, int... things) {
        for (int k = 0; k < things.length; k++) {
            Due.due(of + ": thing of going " + k, x.going(told, k, 1), things[k]);
        }
        Due.due(of + ": no more goings", x.going(told, things.length, 1), BackHouse.NOT);
    }

    private static void atTheHouse() {
        BackHouse x = Houses.withThings(0, 0, 112, 0);
        x.mend(1, PACE, 9);
        driveIs("nothing forgotten", x, 0, 18, 0, 0, 0, 18);
        driveIs("one, though its chance is 0", x, 1, 21, 1, 0, 0, 21);
        driveIs("by a slow one", x, 2, 28, 1, 0, 0, 28);
        driveIs("two goings", x, 3, 31, 2, 0, 0, 31);
    }

    private static void byNumbers() {
        // 3 and 4 come to mind; 3 sets off 0, which then is the least of those there.
        BackHouse x = Houses.withThings(6, 5, 6, 0, 6, 0, 6, 0, 6, 0);
        x.mend(3, SETS_OFF, 1);
        goingsAre("the least that is there", x, 25, 3, 0, 4);
        x.mend(1, SETS_OFF, 16);
        x.mend(4, SETS_OFF, 2 + 4);
        goingsAre("what is had comes no more", x, 22, 1, 2, 4);
        x.mend(0, SETS_OFF, 255);
        goingsAre("only what is told", x, 9, 3, 0);
        x.mend(2, SETS_OFF, 4);
        goingsAre("itself does not matter", x, 4, 2);
        driveIs("a chain at the house", x, 9, 24, 2, 0, 0, 24);
    }

    private static void turningBack() {
        BackHouse x = Houses.withThings(6, 2, 6, 2, 6, 6);
        x.mend(0, WORTH, 12);
        driveIs("as much as the way twice", x, 1, 18, 0, 0, 1, 30);
        x.mend(0, WORTH, 13);
        driveIs("more than the way twice", x, 1, 18 + 12 + 3, 1, 1, 0, 33);
        x.mend(0, WORTH, 6);
        x.mend(1, WORTH, 7);
        driveIs("one of two", x, 2, 18, 0, 0, 2, 25);
        driveIs("both of two", x, 3, 18 + 12 + 6, 2, 1, 0, 36);
        x.mend(2, WORTH, 37);
        driveIs("at the last stop, too", x, 7, 18 + 12 + 6 + 36 + 3, 3, 2, 0, 75);
        x.mend(2, WORTH, 36);
        driveIs("left at the last stop", x, 7, 36, 2, 1, 4, 72);
        Due.due("law", Houses.law(x, "s*10+k"), 1);
        Due.due("s at stop 2", x.going(3, 0, 2), 20);
        Due.due("k at stop 2", x.going(3, 1, 2), 21);
    }

    private static void leftForGood() {
        BackHouse x = Houses.withThings(6, 1, 6, 3, 6, 5);
        x.mend(0, WORTH, 5);
        x.mend(1, WORTH, 50);
        x.mend(2, WORTH, 1);
        x.mend(1, SETS_OFF, 1 + 4);
        driveIs("what is left is not set off", x, 3, 18 + 18 + 3, 1, 1, 1, 44);
        driveIs("what is ahead is set off", x, 6, 18 + 18 + 6, 2, 1, 0, 42);
        x.mend(0, SETS_OFF, 4);
        x.mend(1, SETS_OFF, 0);
        driveIs("what is left sets nothing off", x, 5, 18, 0, 0, 5, 24);
    }

    private static void setOffFromAfar() {
        BackHouse x = Houses.withThings(6, 6, 6, 4, 6, 0);
        x.mend(2, SETS_OFF, 2);
        x.mend(1, SETS_OFF, 1);
        driveIs("a chain over stops", x, 7, 27, 3, 0, 0, 27);
        goingsAre("its order", x, 7, 2, 1, 0);
        driveIs("a chain that lacks its middle", x, 5, 21, 1, 0, 1, 31);
    }

    private static void pricesAndWays() {
        BackHouse x = Houses.withThings(6, 1, 6, 2);
        x.mend(0, WAY, 20);
        x.mend(1, WAY, 1);
        driveIs("ways", x, 0, 33, 0, 0, 0, 33);
        x.mend(0, WORTH, 41);
        x.mend(1, WORTH, 42);
        driveIs("the way to the stop alone", x, 3, 33 + 40 + 3, 1, 1, 2, 76 + 42);
        x.mend(0, PRICE, 2);
        driveIs("a price of 2", x, 1, 33, 0, 0, 1, 107);
        x.mend(0, PRICE, 0);
        driveIs("a price of 0", x, 3, 33 + 40 + 42 + 6, 2, 2, 0, 0);
        x.mend(0, WORTH, 0);
        driveIs("a worth of 0 at a price of 0", x, 1, 33, 0, 0, 1, 0);
    }

    private static void goingIsToldWhole() {
        BackHouse x = Houses.withThings(506, 0, 306, 1);
        x.mend(5, PACE, 4);
        x.mend(1, WORTH, 99);
        int[][] want = {{5, 0, 5}, {3, 1, 3}};
        for (int k = 0; k < 2; k++) {
            for (int what = 0; what < 3; what++) {
                Due.due("going(3, " + k + ", " + what + ")", x.going(3, k, what), want[k][what]);
            }
        }
        Due.due("going(3, 2, 0)", x.going(3, 2, 0), BackHouse.NOT);
        Due.due("going(3, MAX, 0)", x.going(3, Integer.MAX_VALUE, 0), BackHouse.NOT);
        BackHouse eight = Houses.withThings(6, 0, 6, 0, 6, 0, 6, 0, 6, 0, 6, 0, 6, 0, 106, 0);
        Due.due("an eighth going", eight.going(255, 7, 0), 1);
        Due.due("no ninth going", eight.going(255, 8, 0), BackHouse.NOT);
    }

    private static void refusals() {
        BackHouse x = Houses.withThings(6, 0, 6, 3);
        int[] noSet = {4, 7, 256, -1, Integer.MAX_VALUE, Integer.MIN_VALUE};
        for (int told : noSet) {
            Due.due("drive(" + told + ", 0)", x.drive(told, 0), BackHouse.BAD);
            Due.due("going(" + told + ", 0, 0)", x.going(told, 0, 0), BackHouse.BAD);
            Due.due("going(" + told + ", 9, 0)", x.going(told, 9, 0), BackHouse.BAD);
            Due.due("aloud(" + told + ", 0)", x.aloud(told, 0), BackHouse.BAD);
            Due.due("who(" + told + ")", x.who(told), BackHouse.BAD);
            Due.due("onWith(" + told + ")", x.onWith(told), BackHouse.BAD);
        }
        int[] none = {-1, 6, 5, Integer.MIN_VALUE};
        for (int what : none) {
            Due.due("drive(1, " + what + ")", x.drive(1, what), BackHouse.BAD);
            Due.due("going(1, 0, " + what + ")", x.going(1, 0, what), BackHouse.BAD);
        }
        Due.due("going(1, 0, 3)", x.going(1, 0, 3), BackHouse.BAD);
        Due.due("going(1, 9, 3)", x.going(1, 9, 3), BackHouse.BAD);
        Due.due("going(1, -1, 0)", x.going(1, -1, 0), BackHouse.BAD);
        Due.due("aloud(1, 6)", x.aloud(1, 6), BackHouse.BAD);
        Due.due("aloud(1, -1)", x.aloud(1, -1), BackHouse.BAD);
    }

    private static void aloud() {
        BackHouse x = Houses.withThings(6, 0, 106, 3, 206, 6);
        x.mend(0, SETS_OFF, 255);
        x.mend(4, PACE, 9);
        Due.due("nobody goes", x.aloud(0, 4), 18);
        Due.due("one thing", x.aloud(4, 4), 18 + 10);
        Due.due("all things", x.aloud(7, 4), 18 + 12);
        Due.due("nothing is set off", x.aloud(1, 0), 18 + 3);
        x.mend(2, WAY, 20);
        x.mend(0, PRICE, 9);
        Due.due("ways, no price", x.aloud(7, 4), 35 + 12);
        Due.due("law", Houses.law(x, "n*10+s*5+k*7+(w=30)"), 1);
        Due.due("n, w, s, k", x.aloud(7, 4), 35 + 31);
    }

    private static void who() {
        BackHouse x = Houses.withThings(6, 0, 106, 3);
        Due.due("all are alike", x.who(3), 0);
        x.mend(3, PACE, 1);
        x.mend(5, PACE, 1);
        Due.due("of like ones the least number", x.who(3), 3);
        Due.due("nobody goes", x.who(0), 0);
        x.mend(1, PACE, 1);
        Due.due("the second person", x.who(3), 1);
        Due.due("law", Houses.law(x, "10-p"), 1);
        x.mend(4, PACE, 9);
        Due.due("by the law", x.who(1), 4);
        Due.due("law", Houses.law(x, "p+99"), 1);
        Due.due("held minutes are alike", x.who(1), 0);
    }

    private static void onWith() {
        BackHouse x = Houses.withThings(6, 0, 6, 2, 6, 5, 6, 6);
        x.mend(1, WORTH, 99);
        x.mend(2, WORTH, 99);
        Due.due("none", x.onWith(0), 0);
        Due.due("at the house is none", x.onWith(1), 0);
        Due.due("stop 2", x.onWith(3), 2);
        Due.due("the last one", x.onWith(15), 5);
        Due.due("left is none", x.onWith(8), 0);
        x.mend(1, SETS_OFF, 4);
        Due.due("had already", x.onWith(14), 2);
        x.mend(3, STOP, 1);
        Due.due("left ahead of it", x.onWith(10), 2);
    }

    private static void first() {
        BackHouse none = new BackHouse();
        Due.due("no things: first(0)", none.first(0), BackHouse.NOT);
        Due.due("no things: first(1)", none.first(1), BackHouse.NOT);
        Due.due("no things: first(2)", none.first(2), BackHouse.BAD);
        BackHouse x = Houses.withThings(0, 0, 0, 6, 0, 6);
        x.mend(1, WORTH, 30);
        x.mend(2, WORTH, 30);
        // Both at once are worth the way back: 18 + 36 + 6; one alone is left: 18 + 30; with 0: 3 more.
        Due.due("the dearest set", x.first(0), 7);
        Due.due("its cost", x.first(1), 63);
        x.mend(2, WORTH, 7);
        // 18 + 36 + 6 for both, 18 + 30 and 18 + 7 for one.
        Due.due("the dearest set still", x.first(0), 7);
        x.mend(2, WORTH, 6);
        Due.due("both left", x.first(1), 18 + 3 + 36);
        Due.due("both left, the set", x.first(0), 7);
        x.mend(0, PRICE, 0);
        Due.due("all are alike: not the empty one", x.first(0), 1);
        Due.due("all are alike: cost", x.first(1), 0);
        Due.due("first(-1)", x.first(-1), BackHouse.BAD);
        Due.due("first(2)", x.first(2), BackHouse.BAD);
        BackHouse two = Houses.withThings(0, 0, 0, 6);
        two.mend(1, WORTH, 99);
        two.mend(0, SETS_OFF, 2);
        // 0 sets 1 off at the house, 24; 1 alone is worth 18 + 36 + 3.
        Due.due("the second thing alone", two.first(0), 2);
        Due.due("the second thing's cost", two.first(1), 57);
        BackHouse one = Houses.withThings(0, 6);
        Due.due("one thing", one.first(0), 1);
        Due.due("one thing's cost", one.first(1), 28);
    }

    private static void chain() {
        BackHouse x = Houses.withThings(0, 0, 0, 6, 0, 6, 0, 1);
        Due.due("itself", x.chain(0), 1);
        x.mend(0, SETS_OFF, 1);
        Due.due("itself once", x.chain(0), 1);
        x.mend(0, SETS_OFF, 8);
        x.mend(3, SETS_OFF, 4);
        x.mend(2, SETS_OFF, 2 + 1);
        Due.due("at last", x.chain(0), 4);
        Due.due("from its middle, round", x.chain(2), 4);
        Due.due("from its end", x.chain(1), 1);
        x.mend(1, SETS_OFF, 16 + 128);
        Due.due("what is not there is none", x.chain(1), 1);
        x.thing(0, 0);
        Due.due("once it is there", x.chain(1), 2);
        Due.due("and for all", x.chain(0), 5);
        Due.due("chain(5)", x.chain(5), BackHouse.BAD);
        Due.due("chain(-1)", x.chain(-1), BackHouse.BAD);
        Due.due("chain(MAX)", x.chain(Integer.MAX_VALUE), BackHouse.BAD);
    }
}
